/** Promises 23 to 28: take, taken, end, open, packet, count. */
final class LookEdges {
    private static final String[] NO_END = {"-1", "4", "MIN", "MAX"};
    private static final String LINE = "text join 0;key 1 0 0 12 7";

    private LookEdges() { }

    static void run(Script s) {
        takeRefuses(s);
        take(s);
        takeMany(s);
        taken(s);
        endRefuses(s);
        end(s);
        openRefuses(s);
        open(s);
        packetRefuses(s);
        packet(s);
        countRefuses(s);
        countsOfPackets(s);
        countsOfTheRest(s);
    }

    private static void takeRefuses(Script s) {
        for (String host : new String[] {"-1", "2", "MIN", "MAX"}) {
            s.always(23, "UNKNOWN: no such HOST", "take " + host, "UNKNOWN");
        }
        s.edge(23, "NONE: nothing waits", "take 0 = NONE", "take 1 = NONE");
        s.edge(23, "NONE: nothing waits any more; what was taken last stays", "join 0", "send 0 1", "tear 0",
                "take 1 = NONE", "take 0 = 2", "take 0 = NONE", "taken 0 = 0", "taken 4 = 2", "take 2 = UNKNOWN",
                "taken 4 = 2");
        s.edge(23, "NONE: it waits at the other HOST", "join 0", "send 1 1", "tear 1", "take 0 = NONE", "count 3 = 1",
                "take 1 = 2", "take 1 = NONE");
    }

    private static void take(Script s) {
        s.edge(23, "RESULT 0", LINE, "store 0 1", "2 * step 0", "take 0 = 0");
        s.edge(23, "RESULT 1", "join 0", "store 0 1", "2 * step 0", "take 0 = 1");
        s.edge(23, "RESULT 2", "join 0", "store 0 1", "tear 0", "take 0 = 2");
        s.edge(23, "RESULT 3", "join 0", "store 0 1", "4 * tick 0", "take 0 = 3");
        s.edge(23, "RESULT 4", "join 0", "send 0 1", "step 0", "4 * step 2", "take 0 = 4");
        s.edge(23, "what waits longest: one, none, one", LINE, "store 0 1", "2 * step 0", "told 0 = 0 1 0 0 0",
                "take 0 = NONE", "store 0 1", "2 * step 0", "told 0 = 0 1 1 0 0", "take 0 = NONE");
        s.edge(23, "what waits longest: two, one, two", LINE, "2 * store 0 1", "4 * step 0", "told 0 = 0 1 0 0 0",
                "store 0 1", "2 * step 0", "told 0 = 0 1 1 0 0", "told 0 = 0 1 2 0 0", "take 0 = NONE");
    }

    /** As much as can wait at a HOST: 7 for each join. */
    private static void takeMany(Script s) {
        StringBuilder much = new StringBuilder();
        for (int i = 0; i < 26; i++) {
            much.append("join 0\n4 * send 0 1\n3 * receive 0 11\ntear 0 = 7\ntear 1 = 0\n");
        }
        s.edge(23, "182 wait, and all are taken in their order", much.toString(), "count 2 = 182", "181 * take 0",
                "count 2 = 1", "told 0 = 0 5 -1 2 11", "take 0 = NONE");
        s.edge(23, "350 wait", much.toString() + much.substring(0, much.length() / 26 * 24), "count 2 = 350",
                "told 0 = 0 0 0 2 0", "take 0 = 2", "taken 3 = 1");
    }

    private static void taken(Script s) {
        for (String what : new String[] {"-1", "6", "MIN", "MAX"}) {
            s.always(24, "OUTSIDE, also ahead of NONE", "taken " + what, "OUTSIDE");
        }
        for (int what = 0; what <= 5; what++) {
            s.edge(24, "NONE: nothing was taken", "taken " + what + " = NONE", "join 0", "send 0 1", "tear 0",
                    "taken " + what + " = NONE", "take 1 = NONE", "taken " + what + " = NONE");
            s.edge(24, "NONE: since all was as at first", "join 1", "send 3 1", "tear 3", "take 1 = 2", "text all",
                    "taken " + what + " = NONE");
        }
        s.edge(24, "what was taken last of all, of either HOST", "text join 0;join 1", "send 0 1", "store 3 1",
                "store 3 2", "tear 0", "tear 3", "told 1 = 3 1 0 2 0", "told 0 = 0 0 0 2 0", "told 1 = 3 1 1 2 0");
        s.edge(24, "number -1, value the last CELL", "join 0", "receive 1 11", "tear 1", "told 1 = 1 5 -1 2 11");
        s.edge(24, "value 9999, of a RECEIVE", "join 0", "receive 1 0", "send 0 9999", "step 0",
                "told 1 = 1 5 0 0 9999");
        s.edge(24, "a join keeps it", "join 0", "send 0 1", "tear 0", "tear 1", "take 0 = 2", "join 0", "taken 2 = 0",
                "taken 4 = 2");
        s.edge(24, "what is told later does not change it", "join 0", "send 0 1", "receive 0 7", "tear 0", "take 0 = 2",
                "tear 1", "join 0", "store 0 1", "tear 0", "taken 2 = 0", "taken 3 = 0");
    }

    private static void endRefuses(Script s) {
        for (String end : NO_END) {
            s.always(25, "UNKNOWN: no such END", "end " + end + " 0", "UNKNOWN");
            s.always(25, "UNKNOWN is ahead of OUTSIDE", "end " + end + " 11", "UNKNOWN");
        }
        for (String what : new String[] {"-1", "11", "MIN", "MAX"}) {
            for (int end = 0; end < 4; end++) {
                s.always(25, "OUTSIDE", "end " + end + " " + what, "OUTSIDE");
            }
        }
    }

    private static void end(Script s) {
        s.edge(25, "STATE: APART, READY, BROKEN, READY", "end 3 0 = 0", "join 1", "end 3 0 = 1", "tear 3",
                "end 3 0 = 2", "tear 2", "join 1", "end 3 0 = 1");
        s.edge(25, "OPEN WORKS, RECEIVES, TRIES: the most", "join 0", "4 * send 0 1", "3 * receive 0 1", "3 * tick 0",
                "ends 0 = 1 4 4 0 3 3 0 0 0 0 0");
        s.edge(25, "BUSIES: the most", "join 0", "send 0 1", "step 0", "3 * step 2", "end 0 6 = 3", "step 0",
                "end 0 6 = 0");
        s.edge(25, "EXPECTED, CHANGES, COMPLAINED, AIM: the most", LINE, "aim 1 3 11", "2 * add 0 1 1", "2 * step 0",
                "2 * step 0", "add 0 1 1", "step 0", "2 * store 0 1", "step 1", "step 1", "step 0",
                "ends 1 = 1 0 0 3 0 0 0 1 2 3 11");
        StringBuilder many = new StringBuilder(LINE).append('\n');
        for (int i = 0; i < 120; i++) {
            many.append("store 0 1 = ").append(i).append("\n2 * step 0\n");
        }
        s.edge(25, "NEXT, EXPECTED go on: 120", many.toString(), "end 0 1 = 120", "end 1 3 = 120", "end 0 2 = 0");
    }

    private static void openRefuses(Script s) {
        for (String end : NO_END) {
            s.always(26, "UNKNOWN: no such END", "open " + end + " 0 0", "UNKNOWN");
        }
        for (String i : new String[] {"-1", "4", "MIN", "MAX"}) {
            s.always(26, "UNKNOWN: no such OPEN WORK", "open 0 " + i + " 0", "UNKNOWN");
            s.always(26, "UNKNOWN is ahead of OUTSIDE", "open 0 " + i + " 5", "UNKNOWN");
        }
        for (int many = 0; many < 4; many++) {
            String post = many + " * send 0 1";
            s.edge(26, "UNKNOWN: no such OPEN WORK, " + many + " are OPEN", "join 0", post,
                    "open 0 " + many + " 0 = UNKNOWN", "open 0 3 0 = UNKNOWN", "open 0 -1 0 = UNKNOWN",
                    "open 0 " + many + " -1 = UNKNOWN", "open 1 0 0 = UNKNOWN");
            for (String what : new String[] {"-1", "5", "MIN", "MAX"}) {
                s.edge(26, "OUTSIDE, of an OPEN WORK", "join 0", post, "send 0 1",
                        "open 0 " + many + " " + what + " = OUTSIDE");
            }
        }
        s.edge(26, "UNKNOWN: it is OPEN no more", "join 0", "send 0 1", "open 0 0 0 = 0", "tear 0",
                "open 0 0 0 = UNKNOWN");
    }

    private static void open(Script s) {
        s.edge(26, "the first to the fourth; v 0: READ", "text join 1;aim 3 3 11", "send 3 9999 = 0",
                "swap 3 8 9 1 = 1", "aim 3 0 0", "read 3 11 = 2", "store 3 0 = 3", "open 3 0 0 = 0", "open 3 0 1 = 0",
                "open 3 0 2 = 3", "open 3 0 3 = 11", "open 3 0 4 = 9999", "open 3 1 0 = 1", "open 3 1 1 = 4",
                "open 3 1 2 = 3", "open 3 1 3 = 11", "open 3 1 4 = 8", "open 3 2 0 = 2", "open 3 2 1 = 2",
                "open 3 2 2 = 0", "open 3 2 3 = 0", "open 3 2 4 = 0", "open 3 3 0 = 3", "open 3 3 1 = 1",
                "open 3 3 4 = 0", "open 3 4 0 = UNKNOWN");
        s.edge(26, "ADD: its v", "join 0", "add 0 9999 1", "open 0 0 1 = 3", "open 0 0 4 = 9999");
        s.edge(26, "0 the oldest: when one is TOLD the next is", LINE, "store 0 7", "add 0 8 1", "send 0 9",
                "3 * step 0", "step 0 = 0", "open 0 0 0 = 1", "open 0 0 1 = 3", "open 0 0 4 = 8", "open 0 1 0 = 2",
                "open 0 1 4 = 9", "open 0 2 0 = UNKNOWN");
        s.edge(26, "v 0: READ, in a place where another WORK was", LINE, "store 0 7", "2 * step 0", "read 0 1",
                "open 0 0 4 = 0", "open 0 0 0 = 1");
    }

    private static void packetRefuses(Script s) {
        for (String what : new String[] {"-1", "5", "MIN", "MAX"}) {
            s.always(27, "OUTSIDE, also ahead of NOT", "packet " + what, "OUTSIDE");
        }
        for (int what = 0; what <= 4; what++) {
            s.edge(27, "NOT: there are none", "packet " + what + " = NOT", "join 0", "packet " + what + " = NOT",
                    "send 0 1", "step 1 = 1", "packet " + what + " = NOT");
        }
    }

    private static void packet(Script s) {
        for (int end = 0; end < 4; end++) {
            int other = end % 2 == 0 ? end + 1 : end - 1;
            s.edge(27, "the END to which it goes", "join " + end / 2, "send " + end + " 9999",
                    "first = " + other + " 0 0 1 0", "step 0", "first = " + end + " 3 0 2 0");
        }
        s.edge(27, "0 a REQUEST: its value is none of the packet's", LINE, "swap 0 8 9 1", "first = 1 0 0 1 0");
        s.edge(27, "1 DONE: the value, the largest and 0", LINE, "put 1 0 9999", "read 0 1", "step 0",
                "first = 0 1 0 2 9999", "step 0", "store 0 5", "step 0", "first = 0 1 1 4 0");
        s.edge(27, "2 GAP: else 0, in a place where a value was", LINE, "put 1 0 9999", "read 0 1", "2 * step 0",
                "2 * store 0 5", "step 1", "step 0", "first = 0 2 1 4 0");
        s.edge(27, "3 BUSY: else 0, in a place where a value was", LINE, "put 1 0 9999", "read 0 1", "2 * step 0",
                "send 0 5", "step 0", "first = 0 3 1 4 0");
        s.edge(27, "4 DENIED: the REASON", "join 0", "store 0 5", "step 0", "first = 0 4 0 2 1");
        s.edge(27, "a REQUEST in a place where a value was", LINE, "put 1 0 9999", "read 0 1", "2 * step 0", "read 0 1",
                "first = 1 0 1 3 0");
        s.edge(27, "the first of 24, the last SENT", "text join 0;join 1;delay 0 9;delay 1 9", "4 * send 0 1",
                "4 * send 1 1", "4 * send 2 1", "4 * send 3 1", "tick 0", "3 * step 1", "tick 1", "3 * step 1",
                "count 0 = 18", "delay 1 1", "tick 2", "count 0 = 22", "first = 3 0 0 1 0");
    }

    private static void countRefuses(Script s) {
        for (String what : new String[] {"-1", "9", "MIN", "MAX"}) {
            s.always(28, "OUTSIDE", "count " + what, "OUTSIDE");
        }
    }

    private static void countsOfPackets(Script s) {
        s.edge(28, "0 PACKETS: none, 24; 8 PACKETS lost as there were 24", "text join 0;join 1", "count 0 = 0",
                "4 * send 0 1", "4 * send 1 1", "4 * send 2 1", "4 * send 3 1", "count 0 = 16", "tick 0", "tick 1",
                "count 0 = 24", "count 8 = 0", "tick 2", "count 0 = 24", "count 8 = 4", "24 * step 1", "count 0 = 0",
                "count 8 = 28", "step 1 = NOT", "count 8 = 28");
        s.edge(28, "8 PACKETS lost: from when all was as at first", "join 0", "send 0 1", "step 1", "count 8 = 1",
                "tear 0", "tear 1", "join 0", "count 8 = 1", "text all", "count 8 = 0");
        s.edge(28, "8 PACKETS lost: not those that come to a BROKEN END", "join 0", "send 0 1", "tear 1", "step 0",
                "count 8 = 0");
        s.edge(28, "1 NOW: 0, then by what comes; from when all was as at first", "text join 0;delay 0 9", "send 0 1",
                "count 1 = 0", "step 0", "count 1 = 9", "tear 0", "tear 1", "join 0", "count 1 = 9", "text all",
                "count 1 = 0");
        s.edge(28, "6 ADDS and SWAPS that were done: not those told again, not those DENIED", LINE, "add 0 1 1",
                "step 2 = 1", "count 6 = 1", "step 0 = 1", "count 6 = 1", "lock 1 0", "swap 0 1 2 3", "2 * step 0",
                "step 0 = 1", "end 1 0 = 2", "count 6 = 1", "text all", "count 6 = 0");
        s.edge(28, "6 ADDS and SWAPS: by all ENDS, joined again", "text join 0;join 1;key 0 0 0 12 4;key 1 0 0 12 4",
                "add 0 1 1", "add 1 1 1", "swap 2 1 1 1", "swap 3 1 1 1", "4 * step 0", "count 6 = 4", "tear 0",
                "tear 1", "join 0", "count 6 = 4", "add 0 1 1", "count 6 = 4");
    }

    private static void countsOfTheRest(Script s) {
        s.edge(28, "2, 3 what waits at HOST 0, 1", "text join 0;join 1", "4 * send 0 1", "3 * receive 2 1",
                "receive 3 1", "tear 0", "count 2 = 4", "tear 2", "count 2 = 7", "count 3 = 0", "tear 3", "count 3 = 1",
                "take 0", "count 2 = 6", "take 1", "count 3 = 0", "take 1 = NONE", "count 3 = 0");
        s.edge(28, "4 ENDS that are READY: 0 to 4 and back", "count 4 = 0", "join 1", "count 4 = 2", "join 0",
                "count 4 = 4", "tear 2", "count 4 = 3", "tear 0", "count 4 = 2", "tear 1", "count 4 = 1", "tear 3",
                "count 4 = 0");
        StringBuilder most = new StringBuilder();
        for (int cell = 0; cell < 24; cell++) {
            most.append("put ").append(cell % 2).append(' ').append(cell / 2).append(" 9999 = 0\n");
        }
        s.edge(28, "5 all CELLS together: 0, the most", "count 5 = 0", most.toString(), "count 5 = 239976",
                "put 1 11 0", "count 5 = 229977");
        s.edge(28, "7 letters of THE TEXT: none, 1, 200, none", "count 7 = 0", "write 0", "count 7 = 1",
                "199 * write 97", "count 7 = 200", "write 97 = FULL", "count 7 = 200", "erase = 200", "count 7 = 0");
    }
}
