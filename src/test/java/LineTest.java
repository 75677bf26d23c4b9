/** Promises 11 to 14: join, tear, delay, aim. */
public final class LineTest {
    private static final Check CHECK = new Check();
    private static final int[] NO_LINE = {-1, 2, Integer.MIN_VALUE, Integer.MAX_VALUE};
    private static final int[] NO_END = {-1, 4, Integer.MIN_VALUE, Integer.MAX_VALUE};

    public static void main(String[] args) {
        joins();
        joinsMakeNew();
        joinsKeepTheOtherLine();
        tears();
        tearsTellAll();
        delays();
        delaysOfPackets();
        aims();
        CHECK.finish();
    }

    private static void joins() {
        RemoteCells x = new RemoteCells();
        CHECK.is("join(1)", x.join(1), 2);
        CHECK.is("END 2", x.end(2, 0), 1);
        CHECK.is("END 3", x.end(3, 0), 1);
        CHECK.is("END 0", x.end(0, 0), 0);
        CHECK.is("join(1) again", x.join(1), RemoteCells.NOT);
        CHECK.is("join(0)", x.join(0), 4);
        x.tear(0);
        CHECK.is("one END is READY", x.join(0), RemoteCells.NOT);
        x.tear(1);
        CHECK.is("none is READY", x.join(0), 4);
        x.tear(3);
        CHECK.is("END 2 is READY", x.join(1), RemoteCells.NOT);
        for (int line : NO_LINE) {
            CHECK.is("join, no LINE", x.join(line), RemoteCells.UNKNOWN);
        }
    }

    /** All of both ends is as at first but the aim, and the packets of the line are gone, not lost. */
    private static void joinsMakeNew() {
        RemoteCells x = Check.told("join 0;key 1 0 0 12 7;key 0 0 0 12 7;aim 0 0 3;aim 1 0 4");
        x.add(0, 1, 0);
        x.add(1, 1, 0);
        Check.settle(x);
        x.send(0, 1);
        x.store(0, 2);
        x.step(1);
        x.step(0);
        x.send(1, 5);
        x.tick(0);
        CHECK.is("it has COMPLAINED", x.end(1, 7), 1);
        CHECK.is("packets under way", x.count(0), 4);
        x.tear(0);
        x.tear(1);
        CHECK.is("EXPECTED stays when it BREAKS", x.end(1, 3), 1);
        CHECK.is("COMPLAINED stays when it BREAKS", x.end(1, 7), 1);
        CHECK.is("CHANGES stay when it BREAKS", x.end(1, 8), 1);
        CHECK.is("NEXT stays when it BREAKS", x.end(0, 1), 3);
        CHECK.is("packets stay when it BREAKS", x.count(0), 4);
        int waits0 = x.count(2);
        int waits1 = x.count(3);
        int now = x.count(1);
        CHECK.is("join", x.join(0), 2);
        CHECK.is("packets are no more", x.count(0), 0);
        CHECK.is("they are not lost", x.count(8), 1);
        CHECK.is("NOW stays", x.count(1), now);
        CHECK.is("what waits stays", x.count(2), waits0);
        CHECK.is("what waits stays", x.count(3), waits1);
        CHECK.is("changes done stay", x.count(6), 2);
        for (int end = 0; end < 2; end++) {
            CHECK.is("STATE", x.end(end, 0), 1);
            for (int what = 1; what <= 8; what++) {
                CHECK.is("joined end(" + end + ", " + what + ")", x.end(end, what), 0);
            }
            CHECK.is("AIM stays", x.end(end, 10), 3 + end);
        }
        x.store(0, 77);
        x.step(0);
        CHECK.is("number 0 is EXPECTED", x.cell(1, 3), 77);
    }

    private static void joinsKeepTheOtherLine() {
        RemoteCells x = Check.told("join 0;join 1;delay 0 2;delay 1 3");
        x.send(0, 1);
        x.send(2, 2);
        x.send(1, 3);
        x.send(3, 4);
        x.send(0, 5);
        x.tear(0);
        x.tear(1);
        x.join(0);
        CHECK.is("packets of LINE 1", x.count(0), 2);
        CHECK.is("first of LINE 1", x.step(0), 3);
        CHECK.is("second of LINE 1", x.step(1), 2);
        CHECK.is("DELAY stays", x.delay(0, 1), 2);
        CHECK.is("OPEN at END 2", x.end(2, 2), 1);
    }

    private static void tears() {
        RemoteCells x = new RemoteCells();
        CHECK.is("tear APART", x.tear(0), RemoteCells.NOT);
        x.join(0);
        CHECK.is("tear with nothing", x.tear(0), 0);
        CHECK.is("BROKEN", x.end(0, 0), 2);
        CHECK.is("OTHER stays READY", x.end(1, 0), 1);
        CHECK.is("tear BROKEN", x.tear(0), RemoteCells.NOT);
        CHECK.is("nothing is told", x.count(2), 0);
        for (int end : NO_END) {
            CHECK.is("tear, no END", x.tear(end), RemoteCells.UNKNOWN);
        }
    }

    private static void tearsTellAll() {
        RemoteCells x = Check.told("join 1");
        x.receive(3, 7);
        x.receive(3, 2);
        x.receive(3, 7);
        x.send(3, 10);
        x.store(3, 11);
        x.swap(3, 1, 2, 3);
        x.tick(3);
        CHECK.is("tear", x.tear(3), 6);
        CHECK.is("OPEN", x.end(3, 2), 0);
        CHECK.is("RECEIVES", x.end(3, 4), 0);
        CHECK.is("TRIES", x.end(3, 5), 0);
        CHECK.is("waits at HOST 1", x.count(3), 6);
        CHECK.is("waits at HOST 0", x.count(2), 0);
        CHECK.takes("SEND", x, 1, 3, 0, 0, 2, 0);
        CHECK.takes("WRITE", x, 1, 3, 1, 1, 2, 0);
        CHECK.takes("SWAP", x, 1, 3, 4, 2, 2, 0);
        CHECK.takes("RECEIVE", x, 1, 3, 5, -1, 2, 7);
        CHECK.takes("RECEIVE", x, 1, 3, 5, -1, 2, 2);
        CHECK.takes("RECEIVE", x, 1, 3, 5, -1, 2, 7);
        CHECK.is("no more", x.take(1), RemoteCells.NONE);
    }

    private static void delays() {
        RemoteCells x = new RemoteCells();
        CHECK.is("delay 9", x.delay(1, 9), 1);
        CHECK.is("delay 1", x.delay(1, 1), 9);
        CHECK.is("LINE 0 has its own", x.delay(0, 4), 1);
        CHECK.is("delay 0", x.delay(0, 0), RemoteCells.OUTSIDE);
        CHECK.is("delay 10", x.delay(0, 10), RemoteCells.OUTSIDE);
        CHECK.is("delay -1", x.delay(0, -1), RemoteCells.OUTSIDE);
        CHECK.is("it stays", x.delay(0, 4), 4);
        for (int line : NO_LINE) {
            CHECK.is("delay, no LINE", x.delay(line, 0), RemoteCells.UNKNOWN);
        }
    }

    private static void delaysOfPackets() {
        RemoteCells x = Check.told("join 0;join 1;delay 0 5;delay 1 3");
        x.send(0, 1);
        CHECK.is("due by LINE 0", x.packet(3), 5);
        x.send(3, 2);
        CHECK.is("due by LINE 1", x.packet(3), 3);
        CHECK.is("sooner though sent later", x.packet(0), 2);
        x.delay(0, 1);
        x.send(0, 3);
        CHECK.is("sooner by the new DELAY", x.packet(3), 1);
        CHECK.is("it comes to END 1", x.step(0), 1);
        CHECK.is("NOW", x.count(1), 1);
        CHECK.is("the GAP is due", x.packet(3), 2);
        CHECK.is("the GAP", x.packet(1), 2);
    }

    private static void aims() {
        RemoteCells x = new RemoteCells();
        CHECK.is("the same", x.aim(2, 0, 0), 0);
        CHECK.is("another OFFSET", x.aim(2, 0, 11), 1);
        CHECK.is("another KEY", x.aim(2, 3, 11), 1);
        CHECK.is("the same again", x.aim(2, 3, 11), 0);
        CHECK.is("KEY", x.end(2, 9), 3);
        CHECK.is("OFFSET", x.end(2, 10), 11);
        CHECK.is("another END", x.end(3, 9), 0);
        CHECK.is("OFFSET 12", x.aim(2, 3, 12), RemoteCells.OUTSIDE);
        CHECK.is("OFFSET -1", x.aim(2, 3, -1), RemoteCells.OUTSIDE);
        CHECK.is("KEY 4", x.aim(2, 4, 12), RemoteCells.UNKNOWN);
        CHECK.is("KEY -1", x.aim(2, -1, 0), RemoteCells.UNKNOWN);
        CHECK.is("it stays", x.aim(2, 3, 11), 0);
        for (int end : NO_END) {
            CHECK.is("aim, no END", x.aim(end, 0, 12), RemoteCells.UNKNOWN);
        }
        x.join(1);
        CHECK.is("a join keeps it", x.aim(2, 3, 11), 0);
    }
}
