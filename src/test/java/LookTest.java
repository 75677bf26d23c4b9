/** Promises 23 to 25, 27 and 28: take, taken, end, packet, count. */
public final class LookTest {
    private static final Check CHECK = new Check();

    public static void main(String[] args) {
        takes();
        takenOfTheLast();
        ends();
        packets();
        packetsOfLikeDue();
        counts();
        manyNotices();
        CHECK.finish();
    }

    private static void takes() {
        RemoteCells x = Check.told("join 0;key 1 0 0 2 2;aim 0 0 1");
        CHECK.is("nothing waits", x.take(0), RemoteCells.NONE);
        for (int host : new int[] {-1, 2, Integer.MIN_VALUE, Integer.MAX_VALUE}) {
            CHECK.is("take, no HOST", x.take(host), RemoteCells.UNKNOWN);
        }
        x.receive(1, 5);
        x.send(0, 10);
        x.store(0, 11);
        Check.settle(x);
        CHECK.is("two wait at HOST 0", x.count(2), 2);
        CHECK.is("one waits at HOST 1", x.count(3), 1);
        CHECK.takes("SEND", x, 0, 0, 0, 0, 0, 0);
        CHECK.is("one waits at HOST 0", x.count(2), 1);
        CHECK.takes("receive", x, 1, 1, 5, 0, 0, 10);
        CHECK.takes("WRITE", x, 0, 0, 1, 1, 0, 0);
        CHECK.is("nothing waits", x.take(0), RemoteCells.NONE);
        CHECK.is("nothing waits", x.take(1), RemoteCells.NONE);
        CHECK.is("what was taken last stays", x.taken(2), 1);
        x.store(0, 12);
        Check.settle(x);
        CHECK.takes("a WRITE when none waited", x, 0, 0, 1, 2, 0, 0);
        x.store(0, 13);
        x.store(0, 14);
        Check.settle(x);
        CHECK.takes("the first of two", x, 0, 0, 1, 3, 0, 0);
        x.store(0, 15);
        Check.settle(x);
        CHECK.takes("the second of two", x, 0, 0, 1, 4, 0, 0);
        CHECK.takes("one told behind it", x, 0, 0, 1, 5, 0, 0);
        CHECK.is("nothing waits", x.take(0), RemoteCells.NONE);
    }

    private static void takenOfTheLast() {
        RemoteCells x = new RemoteCells();
        CHECK.is("what 6", x.taken(6), RemoteCells.OUTSIDE);
        CHECK.is("what -1", x.taken(-1), RemoteCells.OUTSIDE);
        CHECK.is("nothing was taken", x.taken(0), RemoteCells.NONE);
        x.join(1);
        x.send(3, 4);
        x.tear(3);
        x.join(0);
        CHECK.is("nothing was taken yet", x.taken(5), RemoteCells.NONE);
        CHECK.takes("SEND", x, 1, 3, 0, 0, 2, 0);
        CHECK.is("what 6", x.taken(6), RemoteCells.OUTSIDE);
        CHECK.is("what -1", x.taken(-1), RemoteCells.OUTSIDE);
        x.tear(2);
        x.join(1);
        CHECK.is("a join keeps it", x.taken(1), 3);
        Check.write(x, "all");
        x.tell();
        CHECK.is("all does not", x.taken(1), RemoteCells.NONE);
    }

    private static void ends() {
        RemoteCells x = Check.told("join 0;key 1 1 0 4 4;aim 0 1 3");
        x.add(0, 1, 2);
        Check.settle(x);
        x.send(0, 3);
        x.store(0, 4);
        x.receive(0, 5);
        x.receive(0, 6);
        x.step(0);
        x.step(0);
        x.step(0);
        x.tick(0);
        int[] want = {1, 3, 2, 0, 2, 1, 1, 0, 0, 1, 3};
        for (int what = 0; what <= 10; what++) {
            CHECK.is("end(0, " + what + ")", x.end(0, what), want[what]);
        }
        int[] other = {1, 0, 0, 1, 0, 0, 0, 1, 1, 0, 0};
        for (int what = 0; what <= 10; what++) {
            CHECK.is("end(1, " + what + ")", x.end(1, what), other[what]);
        }
        for (int end = 0; end < 4; end++) {
            CHECK.is("what 11", x.end(end, 11), RemoteCells.OUTSIDE);
            CHECK.is("what -1", x.end(end, -1), RemoteCells.OUTSIDE);
        }
        for (int end : new int[] {-1, 4, Integer.MIN_VALUE, Integer.MAX_VALUE}) {
            CHECK.is("end, no END", x.end(end, 11), RemoteCells.UNKNOWN);
        }
    }

    private static void packets() {
        RemoteCells x = Check.told("join 1;delay 1 7;key 0 0 0 1 1;cell 0 0 44");
        for (int what = 0; what <= 4; what++) {
            CHECK.is("no packets", x.packet(what), RemoteCells.NOT);
        }
        CHECK.is("what 5", x.packet(5), RemoteCells.OUTSIDE);
        CHECK.is("what -1", x.packet(-1), RemoteCells.OUTSIDE);
        x.read(3, 1);
        CHECK.first("REQUEST", x, 2, 0, 0, 0);
        CHECK.is("DUE", x.packet(3), 7);
        x.step(0);
        CHECK.first("DONE", x, 3, 1, 0, 44);
        CHECK.is("DUE", x.packet(3), 14);
        x.step(0);
        x.send(3, 5);
        x.store(3, 6);
        CHECK.first("REQUEST in a place used before", x, 2, 0, 1, 0);
        x.step(0);
        x.step(0);
        CHECK.first("BUSY", x, 3, 3, 1, 0);
        x.step(1);
        CHECK.first("GAP", x, 3, 2, 1, 0);
        x.step(1);
        x.receive(2, 3);
        x.tick(3);
        x.step(0);
        x.step(0);
        CHECK.first("DONE", x, 3, 1, 1, 0);
        x.step(0);
        CHECK.first("DENIED", x, 3, 4, 2, 3);
        CHECK.is("what 5", x.packet(5), RemoteCells.OUTSIDE);
        CHECK.is("what -1", x.packet(-1), RemoteCells.OUTSIDE);
    }

    private static void packetsOfLikeDue() {
        RemoteCells x = Check.told("join 0;join 1;delay 0 3;delay 1 3");
        x.send(2, 1);
        x.send(1, 1);
        x.send(0, 1);
        x.delay(1, 2);
        x.send(3, 1);
        int[] to = {2, 3, 0, 1};
        int[] due = {2, 3, 3, 3};
        for (int i = 0; i < 4; i++) {
            CHECK.is("to", x.packet(0), to[i]);
            CHECK.is("due", x.packet(3), due[i]);
            x.step(1);
        }
    }

    private static void counts() {
        RemoteCells x = Check.told("join 0;key 1 0 0 12 7;cell 0 0 9999;cell 1 11 9999;cell 1 5 1");
        CHECK.is("all CELLS", x.count(5), 19999);
        x.add(0, 1, 1);
        Check.settle(x);
        x.swap(0, 7, 8, 1);
        x.step(0);
        x.step(1);
        x.tick(0);
        x.step(0);
        x.write('a');
        int[] want = {1, 4, 1, 0, 2, 20000, 2, 1, 1};
        for (int what = 0; what <= 8; what++) {
            CHECK.is("count(" + what + ")", x.count(what), want[what]);
        }
        CHECK.is("what 9", x.count(9), RemoteCells.OUTSIDE);
        CHECK.is("what -1", x.count(-1), RemoteCells.OUTSIDE);
        for (int host = 0; host < 2; host++) {
            for (int cell = 0; cell < 12; cell++) {
                x.put(host, cell, 9999);
            }
        }
        CHECK.is("all CELLS, at most", x.count(5), 24 * 9999);
    }

    /** What waits is not bounded but by the calls. */
    private static void manyNotices() {
        RemoteCells x = new RemoteCells();
        int calls = 0;
        int told = 0;
        while (calls + 10 < 400) {
            x.join(0);
            for (int i = 0; i < 4; i++) {
                x.send(0, i);
            }
            for (int i = 0; i < 3; i++) {
                x.receive(0, i);
            }
            x.tear(0);
            x.tear(1);
            calls += 10;
            told += 7;
        }
        CHECK.is("all wait", x.count(2), told);
        for (int i = 0; i < 100; i++) {
            int at = i % 7;
            CHECK.is("in their order", x.take(0), 2);
            CHECK.is("KIND", x.taken(2), at < 4 ? 0 : 5);
            CHECK.is("number", x.taken(3), at < 4 ? at : -1);
        }
        CHECK.is("the rest waits", x.count(2), told - 100);
    }
}
