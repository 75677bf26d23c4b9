/** Promises 15 to 20: send, store, read, add, swap, receive; and promise 26, open, of what they posted. */
public final class PostTest {
    private static final Check CHECK = new Check();
    private static final int[] NO_END = {-1, 4, Integer.MIN_VALUE, Integer.MAX_VALUE};
    private static final int[] NO_CELL = {-1, 12, Integer.MIN_VALUE, Integer.MAX_VALUE};
    private static final int[] NO_VALUE = {-1, 10000, Integer.MIN_VALUE, Integer.MAX_VALUE};

    public static void main(String[] args) {
        unknown();
        outside();
        notReady();
        fullOfWorks();
        fullOfFetches();
        fetchesGoOn();
        numbersGoOn();
        receives();
        opens();
        opensKeepTheirAim();
        CHECK.finish();
    }

    private static void unknown() {
        RemoteCells x = new RemoteCells();
        for (int i = 0; i < 4; i++) {
            CHECK.is("send, no END", x.send(NO_END[i], -1), RemoteCells.UNKNOWN);
            CHECK.is("store, no END", x.store(NO_END[i], -1), RemoteCells.UNKNOWN);
            CHECK.is("read, no END", x.read(NO_END[i], 0), RemoteCells.UNKNOWN);
            CHECK.is("add, no END", x.add(NO_END[i], -1, 0), RemoteCells.UNKNOWN);
            CHECK.is("swap, no END", x.swap(NO_END[i], -1, -1, 0), RemoteCells.UNKNOWN);
            CHECK.is("receive, no END", x.receive(NO_END[i], 0), RemoteCells.UNKNOWN);
            CHECK.is("read, no CELL", x.read(0, NO_CELL[i]), RemoteCells.UNKNOWN);
            CHECK.is("add, no CELL", x.add(0, -1, NO_CELL[i]), RemoteCells.UNKNOWN);
            CHECK.is("swap, no CELL", x.swap(0, -1, 10000, NO_CELL[i]), RemoteCells.UNKNOWN);
            CHECK.is("receive, no CELL", x.receive(0, NO_CELL[i]), RemoteCells.UNKNOWN);
        }
    }

    private static void outside() {
        RemoteCells x = new RemoteCells();
        for (int round = 0; round < 2; round++) {
            for (int i = 0; i < 4; i++) {
                CHECK.is("send", x.send(0, NO_VALUE[i]), RemoteCells.OUTSIDE);
                CHECK.is("store", x.store(0, NO_VALUE[i]), RemoteCells.OUTSIDE);
                CHECK.is("add", x.add(0, NO_VALUE[i], 0), RemoteCells.OUTSIDE);
                CHECK.is("swap v", x.swap(0, NO_VALUE[i], 0, 0), RemoteCells.OUTSIDE);
                CHECK.is("swap w", x.swap(0, 0, NO_VALUE[i], 0), RemoteCells.OUTSIDE);
            }
            x.join(0);
        }
        CHECK.is("nothing was posted", x.end(0, 1), 0);
        CHECK.is("the least value", x.send(0, 0), 0);
        CHECK.is("the greatest value", x.store(0, 9999), 1);
        CHECK.is("the greatest sum", x.add(0, 9999, 11), 2);
        CHECK.is("the greatest exchange", x.swap(0, 9999, 9999, 11), 3);
    }

    private static void notReady() {
        RemoteCells x = new RemoteCells();
        for (int round = 0; round < 2; round++) {
            CHECK.is("send", x.send(0, 1), RemoteCells.NOT);
            CHECK.is("store", x.store(0, 1), RemoteCells.NOT);
            CHECK.is("read", x.read(0, 1), RemoteCells.NOT);
            CHECK.is("add", x.add(0, 1, 1), RemoteCells.NOT);
            CHECK.is("swap", x.swap(0, 1, 1, 1), RemoteCells.NOT);
            CHECK.is("receive", x.receive(0, 1), RemoteCells.NOT);
            x.join(0);
            x.tear(0);
        }
        CHECK.is("nothing is OPEN", x.end(0, 2), 0);
        CHECK.is("nothing is sent", x.count(0), 0);
        CHECK.is("the other END is READY", x.send(1, 1), 0);
    }

    private static void fullOfWorks() {
        RemoteCells x = Check.told("join 0;join 1");
        for (int i = 0; i < 4; i++) {
            CHECK.is("number", i % 2 == 0 ? x.send(0, i) : x.store(0, i), i);
            CHECK.is("OPEN", x.end(0, 2), i + 1);
            CHECK.is("NEXT", x.end(0, 1), i + 1);
            CHECK.is("packets", x.count(0), i + 1);
        }
        CHECK.is("send", x.send(0, 1), RemoteCells.FULL);
        CHECK.is("store", x.store(0, 1), RemoteCells.FULL);
        CHECK.is("read", x.read(0, 1), RemoteCells.FULL);
        CHECK.is("add", x.add(0, 1, 1), RemoteCells.FULL);
        CHECK.is("swap", x.swap(0, 1, 1, 1), RemoteCells.FULL);
        CHECK.is("OUTSIDE is ahead of FULL", x.send(0, 10000), RemoteCells.OUTSIDE);
        CHECK.is("NEXT stays", x.end(0, 1), 4);
        CHECK.is("packets stay", x.count(0), 4);
        CHECK.is("another END has its own", x.send(1, 1), 0);
        CHECK.is("another LINE has its own", x.send(2, 1), 0);
    }

    private static void fullOfFetches() {
        for (int a = 2; a <= 4; a++) {
            for (int b = 2; b <= 4; b++) {
                RemoteCells x = Check.told("join 0");
                CHECK.is("first", fetch(x, a), 0);
                CHECK.is("a WRITE between", x.store(0, 1), 1);
                CHECK.is("second", fetch(x, b), 2);
                for (int c = 2; c <= 4; c++) {
                    CHECK.is("third of " + a + " " + b + " " + c, fetch(x, c), RemoteCells.FULL);
                }
                CHECK.is("a SEND yet", x.send(0, 1), 3);
            }
        }
    }

    /** Those that were told do not count any more. */
    private static void fetchesGoOn() {
        RemoteCells x = Check.told("join 0;key 1 0 0 12 7");
        for (int round = 0; round < 10; round++) {
            CHECK.is("first", fetch(x, 2 + round % 3), 2 * round);
            CHECK.is("second", fetch(x, 2 + round / 3 % 3), 2 * round + 1);
            CHECK.is("third", fetch(x, 2), RemoteCells.FULL);
            Check.settle(x);
        }
    }

    private static int fetch(RemoteCells x, int kind) {
        if (kind == 2) {
            return x.read(0, 1);
        }
        return kind == 3 ? x.add(0, 1, 1) : x.swap(0, 1, 2, 1);
    }

    private static void numbersGoOn() {
        RemoteCells x = Check.told("join 0;key 1 0 0 1 7");
        for (int i = 0; i < 60; i++) {
            CHECK.is("number", x.store(0, i), i);
            Check.settle(x);
            CHECK.is("EXPECTED", x.end(1, 3), i + 1);
            CHECK.is("written", x.cell(1, 0), i);
        }
        CHECK.is("all are told", x.count(2), 60);
    }

    private static void receives() {
        RemoteCells x = Check.told("join 0");
        CHECK.is("first", x.receive(1, 0), 1);
        CHECK.is("second", x.receive(1, 11), 2);
        CHECK.is("third", x.receive(1, 0), 3);
        CHECK.is("fourth", x.receive(1, 5), RemoteCells.FULL);
        CHECK.is("RECEIVES", x.end(1, 4), 3);
        CHECK.is("the other END has its own", x.receive(0, 5), 1);
        x.send(0, 41);
        x.send(0, 42);
        Check.settle(x);
        CHECK.is("the first place", x.cell(1, 0), 41);
        CHECK.is("the second place", x.cell(1, 11), 42);
        CHECK.is("one behind all again", x.receive(1, 7), 2);
        x.send(0, 43);
        x.send(0, 44);
        Check.settle(x);
        CHECK.is("the third place", x.cell(1, 0), 43);
        CHECK.is("the new place", x.cell(1, 7), 44);
        CHECK.is("none is left", x.end(1, 4), 0);
        CHECK.takes("receive", x, 1, 1, 5, 0, 0, 41);
        CHECK.takes("receive", x, 1, 1, 5, 1, 0, 42);
        CHECK.takes("receive", x, 1, 1, 5, 2, 0, 43);
        CHECK.takes("receive", x, 1, 1, 5, 3, 0, 44);
        CHECK.takes("send", x, 0, 0, 0, 0, 0, 0);
    }

    private static void opens() {
        RemoteCells x = Check.told("join 1;aim 3 2 9;key 0 0 0 1 2");
        x.aim(3, 0, 0);
        x.store(3, 1);
        Check.settle(x);
        x.aim(3, 2, 9);
        x.send(3, 50);
        x.swap(3, 61, 62, 7);
        x.read(3, 8);
        x.store(3, 71);
        int[][] want = {{1, 0, 2, 9, 50}, {2, 4, 2, 9, 61}, {3, 2, 2, 9, 0}, {4, 1, 2, 9, 71}};
        for (int i = 0; i < 4; i++) {
            for (int what = 0; what < 5; what++) {
                CHECK.is("open(3, " + i + ", " + what + ")", x.open(3, i, what), want[i][what]);
            }
            CHECK.is("what 5", x.open(3, i, 5), RemoteCells.OUTSIDE);
            CHECK.is("what -1", x.open(3, i, -1), RemoteCells.OUTSIDE);
        }
        CHECK.is("no fifth", x.open(3, 4, 0), RemoteCells.UNKNOWN);
        CHECK.is("none ahead", x.open(3, -1, 0), RemoteCells.UNKNOWN);
        CHECK.is("UNKNOWN is ahead of OUTSIDE", x.open(3, 4, 5), RemoteCells.UNKNOWN);
        CHECK.is("none of the other END", x.open(2, 0, 0), RemoteCells.UNKNOWN);
        for (int end : NO_END) {
            CHECK.is("open, no END", x.open(end, 0, 9), RemoteCells.UNKNOWN);
        }
        RemoteCells y = Check.told("join 0");
        y.add(0, 33, 4);
        CHECK.is("KIND of ADD", y.open(0, 0, 1), 3);
        CHECK.is("v of ADD", y.open(0, 0, 4), 33);
        y.tear(0);
        CHECK.is("none is OPEN then", y.open(0, 0, 0), RemoteCells.UNKNOWN);
    }

    /** A request brings the aim as it was when it was posted, also when it is sent once more. */
    private static void opensKeepTheirAim() {
        RemoteCells x = Check.told("join 0;key 1 0 0 6 7;key 1 1 6 6 7;aim 0 1 2");
        x.store(0, 5);
        x.aim(0, 0, 3);
        x.store(0, 6);
        CHECK.is("KEY of the first", x.open(0, 0, 2), 1);
        CHECK.is("OFFSET of the first", x.open(0, 0, 3), 2);
        CHECK.is("KEY of the second", x.open(0, 1, 2), 0);
        CHECK.is("OFFSET of the second", x.open(0, 1, 3), 3);
        x.step(1);
        x.step(1);
        x.aim(0, 0, 0);
        x.tick(0);
        Check.settle(x);
        CHECK.is("by the first AIM", x.cell(1, 8), 5);
        CHECK.is("by the second AIM", x.cell(1, 3), 6);
        CHECK.is("not by the third", x.cell(1, 0), 0);
    }
}
