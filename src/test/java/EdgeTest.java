/**
 * Each sentence of the document that names a boundary has a script here that names its promise: too small, too
 * large, empty, full, begun again, refused. The scripts stand in the classes named ..Edges, in the document's order.
 */
public final class EdgeTest {
    public static void main(String[] args) {
        Script script = new Script();
        TextEdges.run(script);
        HostEdges.run(script);
        LineEdges.run(script);
        PostEdges.run(script);
        PacketEdges.run(script);
        AnswerEdges.run(script);
        LookEdges.run(script);
        script.finish();
    }
}
