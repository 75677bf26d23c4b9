/** What every test of the project uses: it compares, counts what is wrong, and ends with 1 if anything was. */
final class Check {
    private int wrong = 0;
    private int compared = 0;

    void is(String what, long got, long want) {
        compared++;
        if (got != want) {
            wrong++;
            System.out.println(what + " answered " + got + ", due is " + want);
        }
    }

    void isTrue(String what, boolean holds) {
        compared++;
        if (!holds) {
            wrong++;
            System.out.println(what + ": this does not hold");
        }
    }

    void finish() {
        System.out.println(compared + " answers looked at, " + wrong + " wrong");
        if (wrong != 0 || compared == 0) {
            System.exit(1);
        }
    }

    /** Writes a text letter by letter. */
    static void write(RemoteCells x, String text) {
        for (int i = 0; i < text.length(); i++) {
            x.write(text.charAt(i));
        }
    }

    /** A new object to which that text was told. */
    static RemoteCells told(String text) {
        RemoteCells x = new RemoteCells();
        write(x, text);
        if (x.tell() < 0) {
            throw new IllegalStateException("the test's own text has a fault at " + x.fault() + ": " + text);
        }
        return x;
    }

    static void steps(RemoteCells x, int n) {
        for (int i = 0; i < n; i++) {
            x.step(0);
        }
    }

    /** Lets every packet come, those too that are sent by it. */
    static void settle(RemoteCells x) {
        for (int i = 0; i < 200 && x.count(0) > 0; i++) {
            x.step(0);
        }
    }

    /** Takes the oldest notice at a host and compares all that is known of it. */
    void takes(String what, RemoteCells x, int host, int end, int kind, int number, int result, int value) {
        is(what + ": take(" + host + ")", x.take(host), result);
        is(what + ": HOST", x.taken(0), host);
        is(what + ": END", x.taken(1), end);
        is(what + ": KIND", x.taken(2), kind);
        is(what + ": number", x.taken(3), number);
        is(what + ": RESULT", x.taken(4), result);
        is(what + ": value", x.taken(5), value);
    }

    /** Compares all that packet() tells of the first packet, but its due. */
    void first(String what, RemoteCells x, int to, int type, int number, int value) {
        is(what + ": packet(0)", x.packet(0), to);
        is(what + ": packet(1)", x.packet(1), type);
        is(what + ": packet(2)", x.packet(2), number);
        is(what + ": packet(4)", x.packet(4), value);
    }
}
