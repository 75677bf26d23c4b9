/** Promises 6 to 10: cell, put, key, lock, door. */
final class HostEdges {
    private static final String[] NO_HOST = {"-1", "2", "MIN", "MAX"};
    private static final String[] NO_CELL = {"-1", "12", "MIN", "MAX"};
    private static final String[] NO_KEY = {"-1", "4", "MIN", "MAX"};
    private static final String FOUR_KEYS = """
            key 0 0 0 12 7 = 1
            key 0 1 11 1 0 = 2
            key 0 2 5 7 3 = 3
            key 0 3 1 11 4 = 4
            """;

    private HostEdges() { }

    static void run(Script s) {
        cell(s);
        put(s);
        keyUnknown(s);
        keyOutside(s);
        keyBounds(s);
        keyCounts(s);
        lock(s);
        door(s);
    }

    private static void cell(Script s) {
        for (String host : NO_HOST) {
            s.always(6, "UNKNOWN: no such HOST", "cell " + host + " 0", "UNKNOWN");
        }
        for (String cell : NO_CELL) {
            s.always(6, "UNKNOWN: no such CELL", "cell 0 " + cell, "UNKNOWN");
            s.always(6, "UNKNOWN: no such CELL", "cell 1 " + cell, "UNKNOWN");
        }
        s.edge(6, "the first and the last CELL of each HOST", "put 0 0 1 = 0", "put 0 11 2 = 0", "put 1 0 3 = 0",
                "put 1 11 4 = 0", "cell 0 0 = 1", "cell 0 11 = 2", "cell 1 0 = 3", "cell 1 11 = 4");
    }

    private static void put(Script s) {
        for (String host : NO_HOST) {
            s.always(7, "UNKNOWN: no such HOST", "put " + host + " 0 5", "UNKNOWN");
            s.always(7, "UNKNOWN (HOST) is ahead of OUTSIDE", "put " + host + " 0 -1", "UNKNOWN");
        }
        for (String cell : NO_CELL) {
            s.always(7, "UNKNOWN: no such CELL", "put 1 " + cell + " 5", "UNKNOWN");
            s.always(7, "UNKNOWN (CELL) is ahead of OUTSIDE", "put 0 " + cell + " 10000", "UNKNOWN");
        }
        for (String v : new String[] {"-1", "10000", "MIN", "MAX"}) {
            s.always(7, "v (0 .. 9999), OUTSIDE", "put 1 3 " + v, "OUTSIDE");
        }
        s.edge(7, "the least v and the largest, and what it was", "put 1 11 9999 = 0", "put 1 11 9999 = 9999",
                "put 1 11 0 = 9999", "put 1 11 0 = 0", "cell 1 11 = 0");
        s.edge(7, "refused, the CELL stays", "put 0 3 5 = 0", "put 0 3 10000 = OUTSIDE", "put 0 3 -1 = OUTSIDE",
                "put 0 3 6 = 5");
        s.edge(7, "no other CELL", "put 0 5 7 = 0", "cell 0 4 = 0", "cell 0 6 = 0", "cell 1 5 = 0", "count 5 = 7");
    }

    private static void keyUnknown(Script s) {
        for (String host : NO_HOST) {
            s.always(8, "UNKNOWN: no such HOST", "key " + host + " 0 0 1 0", "UNKNOWN");
            s.always(8, "UNKNOWN (HOST) is ahead of OUTSIDE", "key " + host + " 0 12 13 8", "UNKNOWN");
        }
        for (String key : NO_KEY) {
            s.always(8, "UNKNOWN: no such KEY's number", "key 0 " + key + " 0 1 0", "UNKNOWN");
            s.always(8, "UNKNOWN (KEY's number) is ahead of OUTSIDE", "key 1 " + key + " -1 0 -1", "UNKNOWN");
        }
    }

    private static void keyOutside(Script s) {
        for (String base : NO_CELL) {
            s.always(8, "OUTSIDE: BASE (a CELL)", "key 0 1 " + base + " 1 0", "OUTSIDE");
        }
        s.always(8, "OUTSIDE: BASE 12 with LENGTH 0", "key 0 1 12 0 0", "OUTSIDE");
        s.always(8, "OUTSIDE: BASE -1 with LENGTH 12", "key 0 1 -1 12 0", "OUTSIDE");
        for (String length : new String[] {"0", "-1", "13", "MIN", "MAX"}) {
            s.always(8, "OUTSIDE: LENGTH (1 .. 12)", "key 0 1 0 " + length + " 7", "OUTSIDE");
            s.always(8, "OUTSIDE: LENGTH at another BASE", "key 1 1 11 " + length + " 7", "OUTSIDE");
        }
        s.always(8, "OUTSIDE: a sum that begins again below 0", "key 0 1 MAX MAX 7", "OUTSIDE");
        s.always(8, "OUTSIDE: a sum that begins again below 0", "key 0 1 11 MAX 7", "OUTSIDE");
        s.always(8, "OUTSIDE: a sum that begins again above 0", "key 0 1 MIN MIN 7", "OUTSIDE");
        for (String rights : new String[] {"-1", "8", "MIN", "MAX"}) {
            s.always(8, "OUTSIDE: RIGHTS (0 .. 7)", "key 0 1 0 1 " + rights, "OUTSIDE");
        }
    }

    private static void keyBounds(Script s) {
        for (int base = 0; base <= 11; base++) {
            int most = 12 - base;
            s.edge(8, "BASE and LENGTH together 12 at most: 12",
                    "key 1 2 " + base + " " + most + " 7 = 1", "door 1 2 0 = " + base, "door 1 2 1 = " + most);
            s.edge(8, "BASE and LENGTH together 12 at most: 13",
                    "key 1 2 " + base + " " + (most + 1) + " 7 = OUTSIDE", "door 1 2 0 = NOT");
            s.edge(8, "LENGTH 1 at each BASE", "key 1 2 " + base + " 1 7 = 1", "door 1 2 0 = " + base,
                    "door 1 2 1 = 1");
        }
        for (int rights = 0; rights <= 7; rights++) {
            s.edge(8, "RIGHTS 0 .. 7", "key 0 3 2 3 " + rights + " = 1", "door 0 3 2 = " + rights);
        }
    }

    private static void keyCounts(Script s) {
        s.edge(8, "how many it has: the first to the fourth", FOUR_KEYS);
        s.edge(8, "how many it has: for one of four", FOUR_KEYS, "key 0 0 3 4 5 = 4", "key 0 3 1 1 1 = 4",
                "door 0 0 0 = 3", "door 0 3 1 = 1", "door 0 1 0 = 11", "door 0 2 2 = 3");
        s.edge(8, "how many that HOST has, not the other", FOUR_KEYS, "key 1 0 0 1 0 = 1", "door 1 1 0 = NOT");
        s.edge(8, "the same KEY again", "key 1 3 2 2 2 = 1", "key 1 3 2 2 2 = 1");
        s.edge(8, "refused, the KEY that there was stays", "key 0 0 1 2 3 = 1", "key 0 0 12 1 1 = OUTSIDE",
                "key 0 0 1 12 1 = OUTSIDE", "key 0 0 4 5 8 = OUTSIDE", "door 0 0 0 = 1", "door 0 0 1 = 2",
                "door 0 0 2 = 3");
    }

    private static void lock(Script s) {
        for (String host : NO_HOST) {
            s.always(9, "UNKNOWN: no such HOST", "lock " + host + " 0", "UNKNOWN");
        }
        for (String key : NO_KEY) {
            s.always(9, "UNKNOWN: no such KEY", "lock 0 " + key, "UNKNOWN");
            s.always(9, "UNKNOWN: no such KEY", "lock 1 " + key, "UNKNOWN");
        }
        s.always(9, "NOT: there is none", "lock 0 2", "NOT");
        s.edge(9, "NOT: the other HOST has it", "key 0 1 0 1 1 = 1", "lock 1 1 = NOT", "lock 0 1 = 0");
        s.edge(9, "NOT: it went", "key 0 1 0 1 1 = 1", "lock 0 1 = 0", "lock 0 1 = NOT", "door 0 1 0 = NOT");
        s.edge(9, "how many the HOST has: from four to none", FOUR_KEYS, "lock 0 0 = 3", "lock 0 3 = 2", "lock 0 1 = 1",
                "door 0 2 0 = 5", "lock 0 2 = 0", "lock 0 2 = NOT", "key 0 2 1 2 3 = 1", "door 0 2 0 = 1");
    }

    private static void door(Script s) {
        for (String host : NO_HOST) {
            s.always(10, "UNKNOWN: no such HOST", "door " + host + " 0 0", "UNKNOWN");
            s.always(10, "UNKNOWN (HOST) is ahead of OUTSIDE", "door " + host + " 0 3", "UNKNOWN");
        }
        for (String key : NO_KEY) {
            s.always(10, "UNKNOWN: no such KEY", "door 1 " + key + " 0", "UNKNOWN");
            s.always(10, "UNKNOWN (KEY) is ahead of OUTSIDE", "door 0 " + key + " -1", "UNKNOWN");
        }
        for (String what : new String[] {"-1", "3", "MIN", "MAX"}) {
            s.always(10, "OUTSIDE is ahead of NOT", "door 0 0 " + what, "OUTSIDE");
            s.edge(10, "OUTSIDE of a KEY that there is", FOUR_KEYS, "door 0 3 " + what + " = OUTSIDE");
        }
        for (int what = 0; what <= 2; what++) {
            s.always(10, "NOT: there is none", "door 0 2 " + what, "NOT");
            s.edge(10, "NOT: it went", "key 1 3 0 12 7 = 1", "lock 1 3 = 0", "door 1 3 " + what + " = NOT");
        }
        s.edge(10, "the least and the largest of each", FOUR_KEYS, "door 0 0 0 = 0", "door 0 0 1 = 12",
                "door 0 0 2 = 7", "door 0 1 0 = 11", "door 0 1 1 = 1", "door 0 1 2 = 0", "door 0 3 0 = 1",
                "door 0 3 1 = 11", "door 0 3 2 = 4");
    }
}
