/** Promises 21 and 22: what is done when an ANSWER comes, TOLD, AGAIN, BREAKS; and tick. */
final class AnswerEdges {
    private static final String LINE = "text join 0;key 1 0 0 12 7";

    private AnswerEdges() { }

    static void run(Script s) {
        noOpenWork(s);
        lateGaps(s);
        gaps(s);
        doneWithOlder(s);
        doneBrings(s);
        stuck(s);
        stuckFourTimes(s);
        busies(s);
        busyWithOlder(s);
        deniedTells(s);
        toldMakesNew(s);
        tickRefuses(s);
        tickCounts(s);
        tickFourTimes(s);
        again(s);
        breaks(s);
        waits(s);
    }

    private static void noOpenWork(Script s) {
        s.edge(21, "DONE, none is OPEN: nothing", LINE, "store 0 1", "step 0", "step 2 = 0", "count 2 = 1",
                "step 0 = 0", "count 2 = 1", "count 0 = 0", "ends 0 = 1 1 0 0 0 0 0 0 0 0 0");
        s.edge(21, "DONE of a number less than the oldest OPEN one: nothing", LINE, "store 0 1", "step 0", "step 2 = 0",
                "store 0 2", "step 0 = 0", "count 2 = 1", "end 0 2 = 1", "open 0 0 0 = 1", "end 0 5 = 0",
                "count 0 = 1");
        s.edge(21, "DONE of READ, none is OPEN: its CELL stays", LINE, "read 0 5", "step 0", "step 2 = 0",
                "put 0 5 9 = 0", "step 0 = 0", "cell 0 5 = 9", "count 2 = 1");
        String busy = """
                join 0
                send 0 1
                step 0
                delay 0 9
                step 2 = 0
                end 0 6 = 1
                delay 0 1
                receive 1 3
                tick 0 = 1
                2 * step 0
                end 0 6 = 0
                """;
        s.edge(21, "BUSY, none is OPEN: nothing", busy, "first = 0 3 0 11 0", "step 0 = 0", "end 0 6 = 0",
                "end 0 0 = 1", "count 2 = 1");
        s.edge(21, "BUSY of a number less than the oldest OPEN one: nothing", busy, "send 0 2 = 1", "step 1 = 1",
                "first = 0 3 0 11 0", "step 0 = 0", "end 0 6 = 0", "end 0 2 = 1");
        String denied = LINE + """

                read 0 5
                step 2 = 1
                lock 1 0
                step 0 = 1
                end 1 0 = 2
                step 0 = 0
                count 2 = 1
                first = 0 4 0 3 1
                """;
        s.edge(21, "DENIED, none is OPEN: nothing, it stays READY", denied, "step 0 = 0", "end 0 0 = 1", "count 2 = 1");
        s.edge(21, "DENIED of a number less than the oldest OPEN one: nothing", denied, "store 0 1 = 1", "step 0 = 0",
                "end 0 0 = 1", "end 0 2 = 1", "count 2 = 1");
    }

    private static void lateGaps(Script s) {
        String late = LINE + """

                store 0 1
                store 0 2
                step 1 = 1
                delay 0 9
                step 0 = 1
                delay 0 1
                tick 0 = 1
                2 * step 0
                step 0 = 0
                count 2 = 1
                end 0 5 = 0
                """;
        s.edge(21, "GAP of a number less than the oldest OPEN one: nothing", late, "step 1 = 0", "first = 0 2 0 10 0",
                "step 0 = 0", "end 0 5 = 0", "end 0 2 = 1", "count 0 = 0", "count 1 = 10");
        s.edge(21, "GAP, none is OPEN: nothing", late, "step 0 = 0", "end 0 2 = 0", "first = 0 2 0 10 0", "step 0 = 0",
                "ends 0 = 1 2 0 0 0 0 0 0 0 0 0", "count 0 = 0", "count 2 = 2");
    }

    private static void gaps(Script s) {
        s.edge(21, "GAP of the number of the oldest OPEN one: AGAIN, none is TOLD", LINE, "2 * store 0 1", "step 1",
                "step 0", "step 0 = 0", "end 0 5 = 1", "count 0 = 2", "count 2 = 0", "first = 1 0 0 3 0");
        s.edge(21, "GAP of the next number: the oldest is TOLD, AGAIN", LINE, "3 * store 0 1", "step 0", "step 1",
                "step 0", "step 1 = 0", "first = 0 2 1 2 0", "step 0 = 0", "told 0 = 0 1 0 0 0", "take 0 = NONE",
                "end 0 2 = 2", "end 0 5 = 1", "count 0 = 2", "first = 1 0 1 3 0");
        s.edge(21, "GAP of the last but one of 4: two are TOLD, AGAIN", LINE, "4 * store 0 1", "2 * step 0", "step 1",
                "step 0", "2 * step 1", "first = 0 2 2 2 0", "step 0 = 0", "count 2 = 2", "end 0 2 = 2", "end 0 5 = 1",
                "count 0 = 2", "first = 1 0 2 3 0");
        s.edge(21, "GAP makes TRIES 4: the oldest is TOLD with RESULT 3", LINE, "2 * store 0 1", "step 1", "step 0",
                "tick 0 = 1", "tick 0 = 2", "tick 0 = 3", "first = 0 2 0 2 0", "step 0 = 0", "end 0 0 = 2",
                "told 0 = 0 1 0 3 0", "told 0 = 0 1 1 2 0", "take 0 = NONE", "count 0 = 6", "end 0 5 = 0");
        s.edge(21, "GAP tells an older one: TRIES 3 begin again at 1", LINE, "3 * store 0 1", "step 0", "step 1",
                "step 0", "step 1 = 0", "tick 0 = 1", "tick 0 = 2", "tick 0 = 3", "step 0 = 0", "end 0 0 = 1",
                "end 0 5 = 1", "end 0 2 = 2", "count 2 = 1");
    }

    private static void doneWithOlder(Script s) {
        s.edge(21, "DONE of the last of 4: those less are TOLD first, RESULT 0, value 0", LINE, "receive 1 3",
                "send 0 7", "store 0 8", "store 0 9", "read 0 5", "4 * step 0", "3 * step 1", "first = 0 1 3 2 9",
                "step 0 = 0", "told 0 = 0 0 0 0 0", "told 0 = 0 1 1 0 0", "told 0 = 0 1 2 0 0", "told 0 = 0 2 3 0 9",
                "take 0 = NONE", "end 0 2 = 0", "cell 0 5 = 9");
        s.edge(21, "DONE of the oldest: none is less, the others stay OPEN", LINE, "4 * store 0 7", "4 * step 0",
                "step 0 = 0", "told 0 = 0 1 0 0 0", "take 0 = NONE", "end 0 2 = 3", "open 0 0 0 = 1");
        s.edge(21, "DONE of the second of 4", LINE, "4 * store 0 7", "4 * step 0", "step 1", "step 0 = 0",
                "count 2 = 2", "end 0 2 = 2", "open 0 0 0 = 2");
    }

    private static void doneBrings(Script s) {
        s.edge(21, "DONE of SEND, WRITE: value 0, no CELL", LINE, "put 0 0 7", "receive 1 3", "store 0 5", "send 0 6",
                "4 * step 0", "cell 0 0 = 7", "told 0 = 0 1 0 0 0", "told 0 = 0 0 1 0 0", "count 5 = 18");
        s.edge(21, "DONE of READ: the value 9999 comes to its CELL c", LINE, "put 1 0 9999", "read 0 11", "2 * step 0",
                "cell 0 11 = 9999", "told 0 = 0 2 0 0 9999");
        s.edge(21, "DONE of READ: the value 0 comes to its CELL c", LINE, "put 0 11 5", "read 0 11", "2 * step 0",
                "cell 0 11 = 0", "told 0 = 0 2 0 0 0");
        s.edge(21, "DONE of ADD: what was there ahead of it", LINE, "put 1 0 4", "add 0 3 2", "2 * step 0",
                "cell 0 2 = 4", "cell 1 0 = 7", "told 0 = 0 3 0 0 4");
        s.edge(21, "DONE of SWAP: what was there ahead of it", LINE, "put 1 0 4", "swap 0 4 3 2", "2 * step 0",
                "cell 0 2 = 4", "cell 1 0 = 3", "told 0 = 0 4 0 0 4");
        s.edge(21, "TOLD at the HOST of its END: HOST 1", "text join 1;key 0 0 0 12 7;cell 0 0 9", "read 3 2",
                "2 * step 0", "cell 1 2 = 9", "told 1 = 3 2 0 0 9", "take 0 = NONE");
    }

    private static void stuck(Script s) {
        String[] fetches = {"read 0 5", "add 0 0 5", "swap 0 9 9 5"};
        for (String fetch : fetches) {
            s.edge(21, "STUCK at the oldest: none is TOLD, AGAIN", LINE, fetch, "store 0 1", "2 * step 0", "step 1",
                    "step 0 = 0", "count 2 = 0", "end 0 2 = 2", "end 0 5 = 1", "count 0 = 2", "first = 1 0 0 3 0");
            s.edge(21, "STUCK at the second: those from there on stay OPEN", LINE, "store 0 1", fetch, "2 * store 0 2",
                    "4 * step 0", "3 * step 1", "first = 0 1 3 2 0", "step 0 = 0", "told 0 = 0 1 0 0 0",
                    "take 0 = NONE", "end 0 2 = 3", "open 0 0 0 = 1", "end 0 5 = 1", "count 0 = 3",
                    "first = 1 0 1 3 0");
            s.edge(21, "DONE of that one itself is not STUCK", LINE, "store 0 1", fetch, "2 * step 0", "step 1",
                    "step 0 = 0", "count 2 = 2", "end 0 2 = 0", "count 0 = 0");
        }
        s.edge(21, "STUCK though DONE is of READ itself", LINE, "2 * read 0 5", "2 * step 0", "step 1", "put 1 0 9",
                "step 0 = 0", "cell 0 5 = 0", "count 2 = 0", "end 0 2 = 2", "end 0 5 = 1");
        s.edge(21, "BUSY, STUCK: BUSIES stay", LINE, "read 0 5", "send 0 1", "2 * step 0", "step 1",
                "first = 0 3 1 2 0", "step 0 = 0", "end 0 6 = 0", "end 0 5 = 1", "end 0 2 = 2", "count 0 = 2");
        s.edge(21, "DENIED, STUCK: the END stays READY, none is TOLD", "text join 0;key 1 0 0 1 1", "read 0 5",
                "store 0 1", "2 * step 0", "step 1", "first = 0 4 1 2 3", "step 0 = 0", "end 0 0 = 1", "end 0 2 = 2",
                "end 0 5 = 1", "count 2 = 0", "count 0 = 2");
        s.edge(21, "GAP, STUCK: AGAIN once", LINE, "read 0 5", "2 * store 0 1", "step 0", "step 1", "step 0", "step 1",
                "first = 0 2 1 2 0", "step 0 = 0", "end 0 2 = 3", "end 0 5 = 1", "count 0 = 3", "count 2 = 0");
    }

    private static void stuckFourTimes(Script s) {
        String once = """
                2 * step 0
                step 1 = 0
                step 0 = 0
                """;
        s.edge(21, "STUCK makes TRIES 4: the oldest is TOLD with RESULT 3, the END BREAKS", LINE, "receive 0 7",
                "read 0 5", "store 0 1", once, "end 0 5 = 1", once, "end 0 5 = 2", once, "end 0 5 = 3", "end 0 0 = 1",
                once, "end 0 5 = 0", "end 0 0 = 2", "count 0 = 0", "told 0 = 0 2 0 3 0", "told 0 = 0 1 1 2 0",
                "told 0 = 0 5 -1 2 7", "take 0 = NONE");
    }

    private static void busies(Script s) {
        String once = """
                step 0 = 1
                step 0 = 0
                """;
        String thrice = String.join("\n", "join 0", "receive 0 9", "send 0 1", once, "end 0 6 = 1", "tick 0 = 1", once,
                "end 0 6 = 2", "tick 0 = 2", once, "end 0 6 = 3", "end 0 0 = 1", "count 2 = 0", "tick 0 = 3");
        s.edge(21, "BUSIES 3: it is READY; 4: RESULT 4, value 0, the END BREAKS", thrice, "step 0 = 1", "store 0 2 = 1",
                "step 0 = 0", "ends 0 = 2 2 0 0 0 0 0 0 0 0 0", "told 0 = 0 0 0 4 0", "told 0 = 0 1 1 2 0",
                "told 0 = 0 5 -1 2 9", "take 0 = NONE", "end 1 0 = 1");
        s.edge(21, "BUSIES 3, then a place is there: DONE", thrice, "receive 1 6", once, "told 0 = 0 0 0 0 0",
                "end 0 6 = 0", "end 0 5 = 0", "end 0 0 = 1", "cell 1 6 = 1");
        s.edge(21, "BUSY: nothing is SENT by it", "join 0", "send 0 1", once, "end 0 6 = 1", "count 0 = 0",
                "end 0 5 = 0", "end 0 2 = 1");
        s.edge(21, "BUSY that comes twice counts twice", "join 0", "send 0 1", "step 0", "step 2 = 0", "end 0 6 = 1",
                "step 2 = 0", "end 0 6 = 2", "step 2 = 0", "end 0 6 = 3", "step 2 = 0", "end 0 0 = 2",
                "told 0 = 0 0 0 4 0", "step 0 = 0", "take 0 = NONE");
    }

    private static void busyWithOlder(Script s) {
        s.edge(21, "BUSY: those less are TOLD, and BUSIES begin again at 1", """
                join 0
                send 0 1
                2 * step 0
                tick 0 = 1
                2 * step 0
                tick 0 = 2
                2 * step 0
                end 0 6 = 3
                receive 1 1
                send 0 3 = 1
                tick 0 = 3
                3 * step 0
                first = 0 2 0 8 0
                step 1 = 0
                first = 0 1 0 8 0
                step 1 = 0
                first = 0 3 1 8 0
                step 0 = 0
                told 0 = 0 0 0 0 0
                take 0 = NONE
                end 0 6 = 1
                end 0 5 = 0
                end 0 2 = 1
                end 0 0 = 1
                """);
    }

    private static void deniedTells(Script s) {
        s.edge(21, "DENIED: those less RESULT 0, it RESULT 1 with the REASON, the others RESULT 2, RECEIVES last",
                "text join 0;key 1 0 0 1 2", "receive 0 4", "store 0 7", "read 0 5", "send 0 8", "3 * step 0",
                "step 1 = 0", "first = 0 4 1 2 3", "step 0 = 0", "end 0 0 = 2", "told 0 = 0 1 0 0 0",
                "told 0 = 0 2 1 1 3", "told 0 = 0 0 2 2 0", "told 0 = 0 5 -1 2 4", "take 0 = NONE", "cell 0 5 = 0");
        s.edge(21, "DENIED, REASON 1", "join 0", "store 0 7", "2 * step 0", "told 0 = 0 1 0 1 1", "end 0 0 = 2",
                "count 4 = 0");
        s.edge(21, "DENIED, REASON 2", "text join 0;key 1 0 0 1 7;aim 0 0 1", "add 0 7 5", "2 * step 0",
                "told 0 = 0 3 0 1 2", "cell 0 5 = 0");
        s.edge(21, "DENIED, REASON 3", "text join 0;key 1 0 0 1 3", "swap 0 7 8 5", "2 * step 0", "told 0 = 0 4 0 1 3",
                "cell 0 5 = 0");
    }

    private static void toldMakesNew(Script s) {
        s.edge(21, "TRIES, BUSIES are 0 once a WORK is TOLD", "join 0", "send 0 1", "2 * step 0", "tick 0 = 1",
                "end 0 6 = 1", "end 0 5 = 1", "receive 1 3", "step 0 = 1", "end 0 5 = 1", "step 0 = 0", "end 0 5 = 0",
                "end 0 6 = 0");
        s.edge(21, "not by what is TOLD of RECEIVES", "join 0", "send 0 1", "2 * step 0", "tick 0 = 1", "step 1 = 1",
                "receive 0 5", "send 1 8", "step 0 = 0", "told 0 = 0 5 0 0 8", "end 0 5 = 1", "end 0 6 = 1");
        s.edge(21, "of that END alone", "text join 0;join 1;key 1 0 0 12 7", "store 0 1", "store 2 1", "tick 2 = 1",
                "tick 0 = 1", "step 0 = 1", "3 * step 1", "first = 0 1 0 2 0", "step 0 = 0", "end 0 5 = 0",
                "end 2 5 = 1");
    }

    private static void tickRefuses(Script s) {
        for (String end : new String[] {"-1", "4", "MIN", "MAX"}) {
            s.always(22, "UNKNOWN: no such END", "tick " + end, "UNKNOWN");
        }
        for (int end = 0; end < 4; end++) {
            String call = "tick " + end;
            s.edge(22, "NOT: it is APART", call + " = NOT");
            s.edge(22, "NOT: none is OPEN", "join " + end / 2, call + " = NOT", "receive " + end + " 1",
                    call + " = NOT", "end " + end + " 5 = 0");
            s.edge(22, "NOT: it is BROKEN", "join " + end / 2, "send " + end + " 1", "tear " + end + " = 1",
                    call + " = NOT", "count 0 = 1");
        }
        s.edge(22, "NOT: none is OPEN any more", LINE, "store 0 1", "2 * step 0", "tick 0 = NOT");
        s.edge(22, "NOT: the OTHER alone has OPEN WORKS", "text join 0;join 1", "send 1 1", "send 2 1", "tick 0 = NOT",
                "tick 3 = NOT");
    }

    private static void tickCounts(Script s) {
        for (int end = 0; end < 4; end++) {
            int other = end % 2 == 0 ? end + 1 : end - 1;
            s.edge(22, "TRIES then: one OPEN WORK", "join " + end / 2, "send " + end + " 1", "step 1",
                    "tick " + end + " = 1", "count 0 = 1", "first = " + other + " 0 0 1 0", "tick " + end + " = 2",
                    "tick " + end + " = 3", "count 0 = 3", "end " + end + " 5 = 3", "end " + end + " 0 = 1");
        }
        s.edge(22, "TRIES then: 4 OPEN WORKS, the oldest first", "join 0", "send 0 1", "read 0 1", "store 0 1",
                "add 0 1 1", "4 * step 1", "tick 0 = 1", "count 0 = 4", "packet 2 = 0", "step 1", "packet 2 = 1",
                "step 1", "packet 2 = 2", "step 1", "packet 2 = 3");
        s.edge(22, "TRIES begin again once a WORK was TOLD", LINE, "store 0 1", "tick 0 = 1", "tick 0 = 2",
                "tick 0 = 3", "step 0", "3 * step 1", "step 0 = 0", "end 0 5 = 0", "store 0 1 = 1", "tick 0 = 1");
        s.edge(22, "TRIES is one more though all is lost", """
                text join 0;join 1
                4 * send 1 1
                4 * send 2 1
                4 * send 3 1
                tick 1
                tick 2
                tick 3
                send 0 1 = 0
                count 8 = 1
                tick 0 = 1
                tick 0 = 2
                tick 0 = 3
                count 0 = 24
                count 8 = 4
                tick 0 = 0
                count 8 = 4
                """);
    }

    private static void tickFourTimes(Script s) {
        s.edge(22, "0: it is BROKEN: the oldest RESULT 3, then RESULT 2, then RECEIVES", "join 1", "receive 2 6",
                "read 2 1", "send 2 2", "receive 2 5", "3 * tick 2", "count 0 = 8", "tick 2 = 0", "count 0 = 8",
                "ends 2 = 2 2 0 0 0 0 0 0 0 0 0", "told 0 = 2 2 0 3 0", "told 0 = 2 0 1 2 0", "told 0 = 2 5 -1 2 6",
                "told 0 = 2 5 -1 2 5", "take 0 = NONE", "tick 2 = NOT", "end 3 0 = 1");
        s.edge(22, "0: it is BROKEN: one OPEN WORK alone", "join 0", "store 0 1", "3 * tick 0", "tick 0 = 0",
                "told 0 = 0 1 0 3 0", "take 0 = NONE", "count 0 = 4");
        s.edge(22, "0: it is BROKEN: 4 OPEN WORKS", "join 0", "4 * send 0 1", "3 * tick 0", "tick 0 = 0", "count 2 = 4",
                "told 0 = 0 0 0 3 0", "told 0 = 0 0 1 2 0", "told 0 = 0 0 2 2 0", "told 0 = 0 0 3 2 0");
    }

    private static void again(Script s) {
        s.edge(22, "AGAIN: AIMS as they were", "text join 0;key 1 0 0 6 7;key 1 1 6 6 7;aim 0 1 2", "store 0 5",
                "aim 0 0 3", "store 0 6", "2 * step 1", "aim 0 0 0", "tick 0 = 1", "2 * step 0", "cell 1 8 = 5",
                "cell 1 3 = 6", "cell 1 0 = 0");
        s.edge(22, "AGAIN: all that it needs, for SWAP", LINE, "put 1 0 4", "swap 0 4 9 11", "step 1", "tick 0 = 1",
                "2 * step 0", "cell 1 0 = 9", "cell 0 11 = 4");
        s.edge(22, "AGAIN: DUE by NOW and the DELAY as they are then", "text join 0;delay 0 9", "store 0 5",
                "delay 0 2", "tick 0 = 1", "first = 1 0 0 2 0", "step 1", "first = 1 0 0 9 0");
    }

    private static void breaks(Script s) {
        s.edge(22, "BREAKS: the OTHER knows nothing of it", "join 0", "receive 1 1", "send 1 1", "send 0 1",
                "3 * tick 0", "tick 0 = 0", "ends 1 = 1 1 1 0 1 0 0 0 0 0 0", "count 3 = 0");
        s.edge(22, "BREAKS: NEXT, EXPECTED, CHANGES, AIM stay", "text join 0;key 0 0 0 12 7;aim 0 1 2", "add 1 1 1",
                "2 * step 0", "send 0 1", "3 * tick 0", "tick 0 = 0", "ends 0 = 2 1 0 1 0 0 0 0 1 1 2");
    }

    private static void waits(Script s) {
        s.edge(21, "what is TOLD waits at the HOST, of both its ENDS, one behind the other",
                "text join 0;join 1;key 1 0 0 12 7", "store 2 1", "store 0 1", "receive 2 9", "2 * step 0",
                "step 0 = 2", "step 0 = 0", "send 3 7", "step 0 = 2", "store 0 2", "tear 0", "told 0 = 2 1 0 0 0",
                "told 0 = 0 1 0 0 0", "told 0 = 2 5 0 0 7", "told 0 = 0 1 1 2 0", "take 0 = NONE");
    }
}
