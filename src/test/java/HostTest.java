/** Promises 1 and 6 to 10: a new object; cell, put, key, lock, door. */
public final class HostTest {
    private static final Check CHECK = new Check();
    private static final int[] NO_HOST = {-1, 2, Integer.MIN_VALUE, Integer.MAX_VALUE};
    private static final int[] NO_CELL = {-1, 12, Integer.MIN_VALUE, Integer.MAX_VALUE};
    private static final int[] NO_KEY = {-1, 4, Integer.MIN_VALUE, Integer.MAX_VALUE};

    public static void main(String[] args) {
        newObject();
        cellsAndPuts();
        keys();
        keysThatAreOutside();
        locks();
        doors();
        CHECK.finish();
    }

    private static void newObject() {
        RemoteCells x = new RemoteCells();
        for (int host = 0; host < 2; host++) {
            for (int cell = 0; cell < 12; cell++) {
                CHECK.is("a new CELL", x.cell(host, cell), 0);
            }
            for (int key = 0; key < 4; key++) {
                CHECK.is("no KEY at first", x.door(host, key, 0), RemoteCells.NOT);
            }
            CHECK.is("nothing waits", x.take(host), RemoteCells.NONE);
        }
        for (int end = 0; end < 4; end++) {
            for (int what = 0; what <= 10; what++) {
                CHECK.is("new end(" + end + ", " + what + ")", x.end(end, what), 0);
            }
            CHECK.is("no OPEN WORK", x.open(end, 0, 0), RemoteCells.UNKNOWN);
            CHECK.is("aim at first", x.aim(end, 0, 0), 0);
        }
        for (int what = 0; what <= 8; what++) {
            CHECK.is("new count(" + what + ")", x.count(what), 0);
        }
        for (int what = 0; what <= 5; what++) {
            CHECK.is("new taken(" + what + ")", x.taken(what), RemoteCells.NONE);
        }
        CHECK.is("no packets", x.packet(0), RemoteCells.NOT);
        CHECK.is("DELAY 0", x.delay(0, 1), 1);
        CHECK.is("DELAY 1", x.delay(1, 1), 1);
        CHECK.is("objects share nothing", new RemoteCells().put(0, 0, 5), 0);
        CHECK.is("objects share nothing", new RemoteCells().put(0, 0, 6), 0);
    }

    private static void cellsAndPuts() {
        RemoteCells x = new RemoteCells();
        for (int host = 0; host < 2; host++) {
            for (int cell = 0; cell < 12; cell++) {
                CHECK.is("first put", x.put(host, cell, 100 * host + cell + 1), 0);
            }
        }
        for (int host = 0; host < 2; host++) {
            for (int cell = 0; cell < 12; cell++) {
                CHECK.is("cell", x.cell(host, cell), 100 * host + cell + 1);
            }
        }
        CHECK.is("put answers what it was", x.put(1, 11, 9999), 112);
        CHECK.is("put 0", x.put(1, 11, 0), 9999);
        CHECK.is("put -1", x.put(1, 11, -1), RemoteCells.OUTSIDE);
        CHECK.is("put 10000", x.put(1, 11, 10000), RemoteCells.OUTSIDE);
        CHECK.is("refused puts change nothing", x.cell(1, 11), 0);
        for (int i = 0; i < 4; i++) {
            CHECK.is("cell, no HOST", x.cell(NO_HOST[i], 0), RemoteCells.UNKNOWN);
            CHECK.is("cell, no CELL", x.cell(0, NO_CELL[i]), RemoteCells.UNKNOWN);
            CHECK.is("put, no HOST", x.put(NO_HOST[i], 0, 1), RemoteCells.UNKNOWN);
            CHECK.is("put, no CELL", x.put(0, NO_CELL[i], 1), RemoteCells.UNKNOWN);
            CHECK.is("UNKNOWN is ahead of OUTSIDE", x.put(0, NO_CELL[i], -1), RemoteCells.UNKNOWN);
        }
    }

    private static void keys() {
        RemoteCells x = new RemoteCells();
        CHECK.is("first key", x.key(1, 3, 0, 12, 7), 1);
        CHECK.is("second key", x.key(1, 0, 11, 1, 0), 2);
        CHECK.is("the same key", x.key(1, 3, 5, 7, 1), 2);
        CHECK.is("the other HOST", x.key(0, 3, 5, 6, 2), 1);
        CHECK.is("third key", x.key(1, 1, 1, 1, 1), 3);
        CHECK.is("fourth key", x.key(1, 2, 2, 2, 2), 4);
        CHECK.is("BASE", x.door(1, 3, 0), 5);
        CHECK.is("LENGTH", x.door(1, 3, 1), 7);
        CHECK.is("RIGHTS", x.door(1, 3, 2), 1);
        CHECK.is("RIGHTS of HOST 0", x.door(0, 3, 2), 2);
    }

    private static void keysThatAreOutside() {
        RemoteCells x = new RemoteCells();
        int most = Integer.MAX_VALUE;
        int least = Integer.MIN_VALUE;
        int[][] outside = {
            {-1, 1, 0}, {12, 1, 0}, {12, 0, 0}, {0, 0, 0}, {0, -1, 0}, {0, 13, 0}, {11, 2, 0}, {5, 8, 0},
            {0, 1, -1}, {0, 1, 8}, {most, most, 0}, {0, most, 0}, {1, most, 0}, {least, 1, 0}, {least, most, 0},
            {most, least, 0}, {-1, 13, 0}, {-5, 12, 0}, {0, 1, most}, {0, 1, least}};
        for (int[] k : outside) {
            CHECK.is("key " + k[0] + " " + k[1] + " " + k[2], x.key(0, 0, k[0], k[1], k[2]), RemoteCells.OUTSIDE);
            CHECK.is("UNKNOWN first", x.key(0, 4, k[0], k[1], k[2]), RemoteCells.UNKNOWN);
        }
        CHECK.is("nothing changed", x.door(0, 0, 0), RemoteCells.NOT);
        for (int i = 0; i < 4; i++) {
            CHECK.is("key, no HOST", x.key(NO_HOST[i], 0, 0, 1, 1), RemoteCells.UNKNOWN);
            CHECK.is("key, no KEY", x.key(0, NO_KEY[i], 0, 1, 1), RemoteCells.UNKNOWN);
        }
        x.key(0, 0, 1, 2, 3);
        CHECK.is("refused", x.key(0, 0, 0, 0, 0), RemoteCells.OUTSIDE);
        CHECK.is("the old key stays", x.door(0, 0, 1), 2);
    }

    private static void locks() {
        RemoteCells x = new RemoteCells();
        x.key(0, 1, 0, 1, 1);
        x.key(0, 2, 0, 1, 1);
        CHECK.is("lock none", x.lock(0, 0), RemoteCells.NOT);
        CHECK.is("lock at the other HOST", x.lock(1, 1), RemoteCells.NOT);
        CHECK.is("lock", x.lock(0, 1), 1);
        CHECK.is("lock again", x.lock(0, 1), RemoteCells.NOT);
        CHECK.is("door of it", x.door(0, 1, 0), RemoteCells.NOT);
        CHECK.is("lock the last", x.lock(0, 2), 0);
        CHECK.is("key anew", x.key(0, 1, 4, 5, 6), 1);
        for (int i = 0; i < 4; i++) {
            CHECK.is("lock, no HOST", x.lock(NO_HOST[i], 0), RemoteCells.UNKNOWN);
            CHECK.is("lock, no KEY", x.lock(0, NO_KEY[i]), RemoteCells.UNKNOWN);
        }
    }

    private static void doors() {
        RemoteCells x = new RemoteCells();
        x.key(0, 1, 4, 5, 6);
        CHECK.is("what 0", x.door(0, 1, 0), 4);
        CHECK.is("what 1", x.door(0, 1, 1), 5);
        CHECK.is("what 2", x.door(0, 1, 2), 6);
        CHECK.is("what 3", x.door(0, 1, 3), RemoteCells.OUTSIDE);
        CHECK.is("what -1", x.door(0, 1, -1), RemoteCells.OUTSIDE);
        CHECK.is("OUTSIDE is ahead of NOT", x.door(0, 0, 3), RemoteCells.OUTSIDE);
        CHECK.is("NOT", x.door(0, 0, 2), RemoteCells.NOT);
        for (int i = 0; i < 4; i++) {
            CHECK.is("door, no HOST", x.door(NO_HOST[i], 1, 3), RemoteCells.UNKNOWN);
            CHECK.is("door, no KEY", x.door(0, NO_KEY[i], 3), RemoteCells.UNKNOWN);
        }
    }
}
