/** Promises 15 to 20: send, store, read, add, swap, receive. */
final class PostEdges {
    private static final String[] NO_END = {"-1", "4", "MIN", "MAX"};
    private static final String[] NO_CELL = {"-1", "12", "MIN", "MAX"};
    private static final String[] NO_VALUE = {"-1", "10000", "MIN", "MAX"};
    private static final int FIRST = 15;
    /** Of each KIND a call of END 0 that is done, and its v. */
    private static final String[] DONE = {"send 0 5", "store 0 5", "read 0 5", "add 0 5 5", "swap 0 5 6 5"};
    private static final int[] V = {5, 5, 0, 5, 5};
    private static final int FETCH = 2;

    private PostEdges() { }

    static void run(Script s) {
        unknownEnd(s);
        unknownCell(s);
        outside(s);
        bounds(s);
        notReady(s);
        fullOfWorks(s);
        fullOfFetches(s);
        fetchesWithOthers(s);
        doneAgainWhenOneIsTold(s);
        numbers(s);
        requests(s);
        lostRequests(s);
        receiveRefuses(s);
        receive(s);
    }

    private static void unknownEnd(Script s) {
        for (String end : NO_END) {
            s.always(15, "UNKNOWN: no such END", "send " + end + " 1", "UNKNOWN");
            s.always(15, "UNKNOWN is ahead of OUTSIDE", "send " + end + " 10000", "UNKNOWN");
            s.always(16, "UNKNOWN: no such END", "store " + end + " 1", "UNKNOWN");
            s.always(16, "UNKNOWN is ahead of OUTSIDE", "store " + end + " -1", "UNKNOWN");
            s.always(17, "UNKNOWN: no such END", "read " + end + " 1", "UNKNOWN");
            s.always(18, "UNKNOWN: no such END", "add " + end + " 1 1", "UNKNOWN");
            s.always(18, "UNKNOWN (END) is ahead of OUTSIDE", "add " + end + " -1 1", "UNKNOWN");
            s.always(19, "UNKNOWN: no such END", "swap " + end + " 1 1 1", "UNKNOWN");
            s.always(19, "UNKNOWN (END) is ahead of OUTSIDE", "swap " + end + " -1 10000 1", "UNKNOWN");
        }
    }

    private static void unknownCell(Script s) {
        for (String cell : NO_CELL) {
            s.always(17, "UNKNOWN (CELL, too)", "read 0 " + cell, "UNKNOWN");
            s.always(18, "UNKNOWN (CELL, too)", "add 0 1 " + cell, "UNKNOWN");
            s.always(18, "UNKNOWN (CELL) is ahead of OUTSIDE", "add 0 10000 " + cell, "UNKNOWN");
            s.always(19, "UNKNOWN (CELL, too)", "swap 0 1 1 " + cell, "UNKNOWN");
            s.always(19, "UNKNOWN (CELL) is ahead of OUTSIDE", "swap 0 -1 -1 " + cell, "UNKNOWN");
        }
    }

    private static void outside(Script s) {
        for (String v : NO_VALUE) {
            s.always(15, "v 0 .. 9999: OUTSIDE, ahead of NOT and FULL", "send 0 " + v, "OUTSIDE");
            s.always(16, "v 0 .. 9999: OUTSIDE, ahead of NOT and FULL", "store 0 " + v, "OUTSIDE");
            s.always(18, "v 0 .. 9999: OUTSIDE, ahead of NOT and FULL", "add 0 " + v + " 1", "OUTSIDE");
            s.always(19, "v 0 .. 9999: OUTSIDE, ahead of NOT and FULL", "swap 0 " + v + " 1 1", "OUTSIDE");
            s.always(19, "w 0 .. 9999: OUTSIDE, ahead of NOT and FULL", "swap 0 1 " + v + " 1", "OUTSIDE");
            s.always(19, "v and w: OUTSIDE", "swap 0 " + v + " " + v + " 1", "OUTSIDE");
        }
    }

    private static void bounds(Script s) {
        s.edge(15, "the least v, the largest", "join 0", "send 0 0 = 0", "send 0 9999 = 1", "open 0 0 4 = 0",
                "open 0 1 4 = 9999");
        s.edge(16, "the least v, the largest", "join 0", "store 0 0 = 0", "store 0 9999 = 1", "open 0 0 4 = 0",
                "open 0 1 4 = 9999");
        s.edge(17, "the first CELL, the last", "text join 0;key 1 0 0 1 1;cell 1 0 7", "read 0 0 = 0", "read 0 11 = 1",
                "4 * step 0", "cell 0 0 = 7", "cell 0 11 = 7");
        s.edge(18, "the least v and CELL, the largest", "text join 0;key 1 0 0 1 4;cell 1 0 1", "add 0 0 0 = 0",
                "add 0 9999 11 = 1", "open 0 0 4 = 0", "open 0 1 4 = 9999", "4 * step 0", "cell 0 0 = 1",
                "cell 0 11 = 1", "cell 1 0 = 0");
        s.edge(19, "the least v, w and CELL, the largest", "text join 0;key 1 0 0 1 4", "swap 0 0 9999 0 = 0",
                "swap 0 9999 0 11 = 1", "open 0 0 4 = 0", "open 0 1 4 = 9999", "4 * step 0", "cell 0 0 = 0",
                "cell 0 11 = 9999", "cell 1 0 = 0");
        for (int end = 0; end < 4; end++) {
            int line = end / 2;
            int other = end % 2 == 0 ? end + 1 : end - 1;
            s.edge(15, "at each END; its REQUEST goes to the OTHER", "join " + line, "send " + end + " 3 = 0",
                    "first = " + other + " 0 0 1 0");
            s.edge(17, "a CELL c of the own HOST",
                    "text join " + line + ";key 0 0 0 12 7;key 1 0 0 12 7;cell " + other % 2 + " 0 8",
                    "read " + end + " 11 = 0", "step 0 = " + other, "step 0 = " + end, "cell " + end % 2 + " 11 = 8",
                    "cell " + other % 2 + " 11 = 0");
        }
    }

    private static void notReady(Script s) {
        for (int kind = 0; kind < DONE.length; kind++) {
            String refused = DONE[kind] + " = NOT";
            s.edge(FIRST + kind, "NOT: the END is APART", refused, "ends 0 = 0 0 0 0 0 0 0 0 0 0 0", "count 0 = 0");
            s.edge(FIRST + kind, "NOT: the END is APART, the other LINE is JOINED", "join 1", refused, "count 0 = 0");
            s.edge(FIRST + kind, "NOT: the END is BROKEN", "join 0", DONE[kind] + " = 0", "tear 0 = 1", refused,
                    "end 0 1 = 1", "count 0 = 1");
            s.edge(FIRST + kind, "READY though the OTHER is BROKEN", "join 0", "tear 1 = 0", DONE[kind] + " = 0",
                    "count 0 = 1");
            s.edge(FIRST + kind, "READY again", "join 0", "tear 0", "tear 1", refused, "join 0 = 2",
                    DONE[kind] + " = 0");
        }
    }

    private static void fullOfWorks(Script s) {
        String[] fills = {
            "4 * send 0 1", "4 * store 0 1", "send 0 1\nread 0 1\nstore 0 1\nadd 0 1 1",
            "2 * swap 0 1 1 1\n2 * send 0 1"};
        for (int kind = 0; kind < DONE.length; kind++) {
            for (String fill : fills) {
                s.edge(FIRST + kind, "FULL: 4 are OPEN", "join 0", fill, DONE[kind] + " = FULL", "end 0 1 = 4",
                        "end 0 2 = 4", "count 0 = 4");
            }
            s.edge(FIRST + kind, "3 are OPEN: the fourth is done", "join 0", "3 * send 0 1", DONE[kind] + " = 3",
                    "end 0 2 = 4", "open 0 3 1 = " + kind, "open 0 3 0 = 3", DONE[kind] + " = FULL");
            s.edge(FIRST + kind, "none is OPEN: the first is done", "join 0", DONE[kind] + " = 0", "end 0 2 = 1",
                    "open 0 0 1 = " + kind);
            s.edge(FIRST + kind, "4 are OPEN at each other END: the first is done", "text join 0;join 1",
                    "4 * send 1 1", "4 * send 2 1", "4 * send 3 1", DONE[kind] + " = 0");
        }
    }

    private static void fullOfFetches(Script s) {
        for (int third = FETCH; third < DONE.length; third++) {
            for (int first = FETCH; first < DONE.length; first++) {
                for (int second = FETCH; second < DONE.length; second++) {
                    s.edge(FIRST + third, "FULL: 2 of READ, ADD, SWAP together", "join 0", DONE[first] + " = 0",
                            DONE[second] + " = 1", DONE[third] + " = FULL", "end 0 1 = 2", "count 0 = 2");
                }
                s.edge(FIRST + third, "1 of READ, ADD, SWAP: the second is done", "join 0", DONE[first] + " = 0",
                        DONE[third] + " = 1");
                s.edge(FIRST + third, "1 of them and 2 others: the second is done", "join 0", "send 0 1 = 0",
                        DONE[first] + " = 1", "store 0 1 = 2", DONE[third] + " = 3");
            }
            s.edge(FIRST + third, "2 of them with another between", "join 0", "read 0 1 = 0", "send 0 1 = 1",
                    "add 0 1 1 = 2", DONE[third] + " = FULL");
            s.edge(FIRST + third, "2 of them at another END", "text join 0;join 1", "2 * read 2 1", "2 * read 1 1",
                    DONE[third] + " = 0");
        }
    }

    private static void fetchesWithOthers(Script s) {
        for (int kind = 0; kind < FETCH; kind++) {
            s.edge(FIRST + kind, "2 of READ, ADD, SWAP do not make it FULL", "join 0", "read 0 1 = 0",
                    "swap 0 1 1 1 = 1", DONE[kind] + " = 2", DONE[kind] + " = 3", DONE[kind] + " = FULL");
        }
    }

    private static void doneAgainWhenOneIsTold(Script s) {
        for (int kind = 0; kind < DONE.length; kind++) {
            s.edge(FIRST + kind, "4 were OPEN, one is told: the fifth is done", "text join 0;key 1 0 0 12 7",
                    "4 * store 0 1", DONE[kind] + " = FULL", "4 * step 0", DONE[kind] + " = FULL", "step 0 = 0",
                    DONE[kind] + " = 4", DONE[kind] + " = FULL");
        }
        for (int kind = FETCH; kind < DONE.length; kind++) {
            s.edge(FIRST + kind, "2 of them were OPEN, one is told: the next is done", "text join 0;key 1 0 0 12 7",
                    "2 * read 0 1", DONE[kind] + " = FULL", "2 * step 0", DONE[kind] + " = FULL", "step 0 = 0",
                    DONE[kind] + " = 2", DONE[kind] + " = FULL", "step 0 = 0", DONE[kind] + " = 3");
        }
    }

    private static void numbers(Script s) {
        for (int kind = 0; kind < DONE.length; kind++) {
            s.edge(FIRST + kind, "its number is NEXT, one more each time; refused it gets none", "join 0",
                    DONE[kind] + " = 0", "end 0 1 = 1", "send 0 10000 = OUTSIDE", "read 0 12 = UNKNOWN",
                    DONE[kind] + " = 1", "end 0 1 = 2");
            s.edge(FIRST + kind, "it begins again at 0 when the LINE is JOINED", "join 0", DONE[kind] + " = 0",
                    DONE[kind] + " = 1", "tear 0", "tear 1", "join 0", DONE[kind] + " = 0");
        }
        s.edge(15, "each END has its own NEXT", "text join 0;join 1", "send 0 1 = 0", "send 0 1 = 1", "send 1 1 = 0",
                "send 2 1 = 0", "send 3 1 = 0", "send 0 1 = 2", "send 3 1 = 1");
    }

    private static void requests(Script s) {
        for (int kind = 0; kind < DONE.length; kind++) {
            s.edge(FIRST + kind, "its REQUEST is SENT, with the AIM as it is then", "text join 0;aim 0 3 11;delay 0 9",
                    DONE[kind] + " = 0", "aim 0 1 1", "first = 1 0 0 9 0", "open 0 0 0 = 0", "open 0 0 1 = " + kind,
                    "open 0 0 2 = 3", "open 0 0 3 = 11", "open 0 0 4 = " + V[kind]);
        }
    }

    /** All 24 are under way: a REQUEST is lost, but the WORK is OPEN, and can be asked for AGAIN. */
    private static void lostRequests(Script s) {
        String full = """
                text join 0;join 1
                4 * send 1 1
                4 * send 2 1
                4 * send 3 1
                tick 1
                tick 2
                tick 3
                count 0 = 24
                """;
        for (int kind = 0; kind < DONE.length; kind++) {
            s.edge(FIRST + kind, "if there are 24 PACKETS its REQUEST is lost; it is OPEN", full, DONE[kind] + " = 0",
                    "count 0 = 24", "count 8 = 1", "end 0 2 = 1", "end 0 1 = 1");
            s.edge(FIRST + kind, "with 23 PACKETS its REQUEST is under way", full, "step 1 = 0", "count 8 = 1",
                    DONE[kind] + " = 0", "count 0 = 24", "count 8 = 1");
        }
    }

    private static void receiveRefuses(Script s) {
        for (String end : NO_END) {
            s.always(20, "UNKNOWN: no such END", "receive " + end + " 0", "UNKNOWN");
        }
        for (String cell : NO_CELL) {
            s.always(20, "UNKNOWN (CELL, too)", "receive 0 " + cell, "UNKNOWN");
            s.always(20, "UNKNOWN (CELL, too)", "receive 3 " + cell, "UNKNOWN");
        }
        for (int end = 0; end < 4; end++) {
            String call = "receive " + end + " 0";
            String join = "join " + end / 2;
            s.edge(20, "NOT: the END is APART", call + " = NOT", "join " + (1 - end / 2), call + " = NOT");
            s.edge(20, "NOT: the END is BROKEN", join, call + " = 1", "tear " + end + " = 1", call + " = NOT",
                    "end " + end + " 4 = 0");
            s.edge(20, "FULL: 3", join, call + " = 1", call + " = 2", call + " = 3", call + " = FULL",
                    "end " + end + " 4 = 3");
        }
    }

    private static void receive(Script s) {
        s.edge(20, "how many there are: the first CELL, the last, the same again", "join 0", "receive 1 0 = 1",
                "receive 1 11 = 2", "receive 1 0 = 3");
        s.edge(20, "each END has its own", "text join 0;join 1", "3 * receive 0 1", "receive 1 1 = 1",
                "receive 2 1 = 1", "receive 3 1 = 1", "receive 0 1 = FULL");
        s.edge(20, "behind all: one goes, one more comes", """
                join 0
                receive 1 0 = 1
                receive 1 1 = 2
                receive 1 2 = 3
                4 * send 0 9
                step 0 = 1
                cell 1 0 = 9
                end 1 4 = 2
                receive 1 3 = 3
                receive 1 4 = FULL
                step 0 = 1
                cell 1 1 = 9
                step 0 = 1
                cell 1 2 = 9
                cell 1 3 = 0
                step 0 = 1
                cell 1 3 = 9
                end 1 4 = 0
                receive 1 4 = 1
                """);
        s.edge(20, "it is as good with 4 OPEN WORKS", "join 0", "4 * send 0 1", "receive 0 1 = 1");
        s.edge(20, "nothing is SENT or TOLD by it", "join 0", "receive 0 1 = 1", "count 0 = 0", "count 2 = 0",
                "end 0 1 = 0");
    }
}
