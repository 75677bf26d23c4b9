/** Promise 21, step, and what is done when a REQUEST comes: EXPECTED, RECEIVES, REASONS, CELLS, CHANGES. */
final class PacketEdges {
    private static final String LINE = "text join 0;key 1 0 0 12 7";
    private static final int SEND = 0, WRITE = 1, READ = 2, ADD = 3, SWAP = 4;
    private static final String[] WORK = {"send 0 5", "store 0 5", "read 0 5", "add 0 5 5", "swap 0 0 5 5"};
    private static final int[] RIGHT = {0, 2, 1, 4, 4};
    /** 24 PACKETS, of which the first goes to END 1, the fifth to END 0. */
    private static final String FULL = """
            text join 0;join 1
            4 * send 0 1
            4 * send 1 1
            4 * send 2 1
            4 * send 3 1
            tick 0
            tick 1
            count 0 = 24
            """;

    private PacketEdges() { }

    static void run(Script s) {
        stepRefuses(s);
        ways(s);
        twice(s);
        fullWire(s);
        firstPacket(s);
        now(s);
        notReady(s);
        tooSoon(s);
        tooSoonAgain(s);
        lessSendAndWrite(s);
        lessRead(s);
        lessChanges(s);
        expectedSend(s);
        reasons(s);
        reasonsThen(s);
        denied(s);
        readAndWrite(s);
        adds(s);
        swaps(s);
        changes(s);
    }

    private static void stepRefuses(Script s) {
        for (String way : new String[] {"-1", "3", "MIN", "MAX"}) {
            s.always(21, "OUTSIDE, also ahead of NOT", "step " + way, "OUTSIDE");
        }
        for (int way = 0; way <= 2; way++) {
            s.edge(21, "NOT: there are none", "step " + way + " = NOT");
            s.edge(21, "NOT: there are none any more", "join 0", "send 0 1", "step 1 = 1", "step " + way + " = NOT",
                    "count 8 = 1");
        }
    }

    private static void ways(Script s) {
        for (int end = 0; end < 4; end++) {
            int other = end % 2 == 0 ? end + 1 : end - 1;
            for (int way = 0; way <= 2; way++) {
                s.edge(21, "the END", "join " + end / 2, "send " + end + " 1", "step " + way + " = " + other);
            }
        }
        s.edge(21, "way 0: it comes, and is gone", LINE, "store 0 7", "step 0 = 1", "cell 1 0 = 7", "count 0 = 1",
                "first = 0 1 0 2 0", "count 8 = 0");
        s.edge(21, "way 1: it is lost: nothing comes, NOW stays", LINE, "delay 0 9", "store 0 7", "step 1 = 1",
                "cell 1 0 = 0", "count 0 = 0", "count 1 = 0", "count 8 = 1", "end 0 2 = 1", "end 1 3 = 0");
        s.edge(21, "way 1: an answer is lost", LINE, "store 0 7", "step 0 = 1", "step 1 = 0", "count 1 = 1",
                "count 8 = 1", "end 0 2 = 1", "count 2 = 0");
    }

    private static void twice(Script s) {
        s.edge(21, "way 2: comes and is SENT once more, ahead of what comes of it", LINE, "delay 0 9", "store 0 7",
                "step 2 = 1", "count 1 = 9", "cell 1 0 = 7", "count 0 = 2", "first = 1 0 0 18 0", "step 1 = 1",
                "first = 0 1 0 18 0");
        s.edge(21, "way 2: with a new DUE by the DELAY as it is then", LINE, "delay 0 9", "store 0 7", "delay 0 1",
                "step 2 = 1", "count 1 = 9", "first = 1 0 0 10 0");
        s.edge(21, "way 2: an answer comes twice", LINE, "cell 1 0 = 0", "read 0 5", "put 1 0 44", "step 0 = 1",
                "first = 0 1 0 2 44", "step 2 = 0", "count 2 = 1", "first = 0 1 0 3 44", "put 0 5 1 = 44", "step 0 = 0",
                "cell 0 5 = 1", "count 2 = 1", "count 0 = 0");
        s.edge(21, "way 2 again and again: the same PACKET", LINE, "add 0 5 5", "step 2 = 1", "step 2 = 1",
                "cell 1 0 = 5", "count 6 = 1", "count 0 = 3", "first = 0 1 0 2 0", "step 1 = 0", "first = 1 0 0 3 0");
        s.edge(21, "way 2 by an END that is BROKEN meanwhile", LINE, "store 0 7", "tear 0 = 1", "step 2 = 1",
                "cell 1 0 = 7", "count 0 = 2", "first = 1 0 0 2 0");
        s.edge(21, "way 2 to an END that is BROKEN", LINE, "store 0 7", "tear 1 = 0", "step 2 = 1", "cell 1 0 = 0",
                "count 0 = 1", "count 1 = 1", "first = 1 0 0 2 0");
        s.edge(21, "way 2 brings all that it needs once more", LINE, "put 1 11 9", "delay 0 9", "store 0 1",
                "aim 0 0 11", "delay 0 1", "swap 0 9 8 5", "aim 0 3 3", "delay 0 9", "step 2 = 1", "end 1 7 = 1",
                "step 0 = 1", "first = 1 0 1 10 0", "step 0 = 1", "cell 1 11 = 8", "count 6 = 1");
        s.edge(21, "way 2 brings its value once more", "join 0", "send 0 9999", "step 2 = 1", "receive 1 3",
                "step 0 = 1", "cell 1 3 = 9999");
    }

    private static void fullWire(Script s) {
        s.edge(21, "24 at most: what is SENT then is lost", FULL, "count 8 = 0", "tick 2 = 1", "count 0 = 24",
                "count 8 = 4");
        s.edge(21, "24, way 0: the answer has the place of what came", FULL, "step 0 = 1", "count 0 = 24",
                "count 8 = 0", "end 1 7 = 0");
        s.edge(21, "24, way 1: one place is free", FULL, "step 1 = 1", "count 0 = 23", "count 8 = 1", "tick 2 = 1",
                "count 0 = 24", "count 8 = 4");
        s.edge(21, "24, way 2: SENT once more ahead, the answer is lost", FULL, "step 2 = 1", "count 0 = 24",
                "count 8 = 1");
        s.edge(21, "GAP is lost as there were 24: it has COMPLAINED all the same", FULL, "step 1 = 1", "tick 2 = 1",
                "count 0 = 24", "count 8 = 4", "step 2 = 1", "count 8 = 5", "end 1 7 = 1", "end 1 3 = 0");
        s.edge(21, "DONE is lost as there were 24: it is done all the same", FULL, "receive 1 9", "step 2 = 1",
                "count 8 = 1", "cell 1 9 = 1", "end 1 3 = 1", "told 1 = 1 5 0 0 1");
        s.edge(21, "AGAIN with 22: the oldest have the places", FULL, "step 1 = 1", "step 1 = 1", "tick 2 = 1",
                "count 0 = 24", "count 8 = 4", "22 * step 1", "first = 3 0 0 1 0", "step 1 = 3", "first = 3 0 1 1 0",
                "step 1 = 3", "packet 0 = NOT");
    }

    private static void firstPacket(Script s) {
        s.edge(21, "the least DUE", "text join 0;join 1;delay 0 9;delay 1 8", "send 0 1", "send 2 1", "step 1 = 3",
                "step 1 = 1");
        s.edge(21, "of like ones the one that was SENT sooner", "text join 0;join 1;delay 0 9;delay 1 9", "send 2 1",
                "send 0 1", "send 3 1", "send 1 1", "step 1 = 3", "step 1 = 1", "step 1 = 2", "step 1 = 0");
        s.edge(21, "of like DUE though SENT at another time", "text join 0;join 1;delay 0 9", "send 2 1", "send 0 1",
                "step 0 = 3", "delay 1 8", "step 0 = 2", "count 1 = 2", "delay 1 7", "tick 2 = 1", "first = 1 0 0 9 0",
                "step 1 = 1", "first = 3 0 0 9 0");
        s.edge(21, "SENT once more it is the last of like ones", "text join 0;join 1;delay 0 1;delay 1 2", "send 0 1",
                "send 2 1", "step 2 = 1", "first = 3 0 0 2 0", "step 1 = 3", "first = 1 0 0 2 0", "step 1 = 1",
                "first = 0 3 0 2 0");
    }

    private static void now(Script s) {
        s.edge(21, "NOW becomes its DUE, if that is more: of two of like DUE", "text join 0;join 1;delay 0 9;delay 1 9",
                "send 0 1", "send 2 1", "step 0 = 1", "count 1 = 9", "step 0 = 3", "count 1 = 9");
        s.edge(21, "NOW becomes its old DUE ahead of both", "text join 0;delay 0 5", "send 0 1", "step 2 = 1",
                "count 1 = 5", "first = 1 0 0 10 0", "step 1", "first = 0 3 0 10 0");
        s.edge(21, "NOW goes on, as far as 9 a step", "text join 0;delay 0 9", "send 0 1", "tear 1", "40 * step 2",
                "count 1 = 360", "first = 1 0 0 369 0", "count 0 = 1");
        s.edge(21, "a PACKET that is lost does not make it later; what is SENT then is DUE sooner",
                "text join 0;delay 0 9", "send 0 1", "step 1 = 1", "delay 0 1", "send 0 1", "packet 3 = 1");
    }

    private static void notReady(Script s) {
        for (int kind = SEND; kind <= SWAP; kind++) {
            s.edge(21, "the END is not READY: nothing more happens, for a REQUEST", LINE, "delay 0 6", "receive 1 3",
                    WORK[kind], "tear 1 = 1", "step 0 = 1", "count 1 = 6", "count 5 = 0", "count 0 = 0", "count 3 = 1",
                    "count 6 = 0", "ends 1 = 2 0 0 0 0 0 0 0 0 0 0");
        }
        s.edge(21, "the END is not READY: no GAP, too", LINE, "2 * store 0 1", "tear 1", "step 1", "step 0 = 1",
                "count 0 = 0", "end 1 7 = 0");
        s.edge(21, "the END is not READY: nothing more happens, for DONE", LINE, "read 0 5", "put 1 0 9", "step 0 = 1",
                "tear 0 = 1", "step 0 = 0", "count 1 = 2", "cell 0 5 = 0", "told 0 = 0 2 0 2 0", "take 0 = NONE");
        s.edge(21, "the END is not READY: nothing more happens, for GAP", LINE, "2 * store 0 1", "step 1", "step 0 = 1",
                "packet 1 = 2", "tear 0 = 2", "step 0 = 0", "end 0 5 = 0", "count 0 = 0", "count 2 = 2");
        s.edge(21, "the END is not READY: nothing more happens, for BUSY", "join 0", "send 0 1", "step 0 = 1",
                "packet 1 = 3", "tear 0 = 1", "step 0 = 0", "end 0 6 = 0", "count 2 = 1");
        s.edge(21, "the END is not READY: nothing more happens, for DENIED", "join 0", "store 0 1", "step 0 = 1",
                "packet 1 = 4", "tear 0 = 1", "step 0 = 0", "told 0 = 0 1 0 2 0", "take 0 = NONE");
    }

    private static void tooSoon(Script s) {
        for (int kind = SEND; kind <= SWAP; kind++) {
            s.edge(21, "r is more than EXPECTED, by 1: GAP, and nothing is done", LINE, "receive 1 3", "store 0 1",
                    WORK[kind], "step 1 = 1", "step 0 = 1", "count 0 = 1", "first = 0 2 0 2 0", "end 1 7 = 1",
                    "end 1 3 = 0", "end 1 4 = 1", "end 1 8 = 0", "count 5 = 0");
        }
        s.edge(21, "r is more than EXPECTED, by 3", LINE, "4 * store 0 1", "3 * step 1", "step 0 = 1",
                "first = 0 2 0 2 0", "end 1 7 = 1");
        s.edge(21, "GAP is of the number EXPECTED, not r", LINE, "4 * store 0 1", "step 0", "step 0", "step 1",
                "step 0", "step 1", "step 1", "first = 0 2 2 2 0");
        s.edge(21, "too soon, its KEY is not looked at", "join 0", "2 * store 0 1", "step 1", "step 0 = 1",
                "end 1 0 = 1", "packet 1 = 2");
    }

    private static void tooSoonAgain(Script s) {
        s.edge(21, "if it has COMPLAINED no GAP is SENT", LINE, "4 * store 0 1", "step 1", "step 0", "step 0", "step 0",
                "count 0 = 1");
        s.edge(21, "once the EXPECTED one came it has not COMPLAINED; it may again", LINE, "4 * store 0 1", "step 1",
                "step 0", "end 1 7 = 1", "2 * step 1", "step 1 = 0", "tick 0 = 1", "step 0 = 1", "end 1 7 = 0",
                "step 1", "step 0 = 1", "end 1 7 = 1", "step 1", "first = 0 1 0 3 0", "step 1", "first = 0 2 1 3 0");
        s.edge(21, "BUSY: it has COMPLAINED yet", "join 0", "send 0 1", "store 0 1", "2 * step 0", "end 1 7 = 1",
                "2 * step 1", "tick 0 = 1", "step 0 = 1", "end 1 7 = 1", "step 0 = 1", "count 0 = 1",
                "first = 0 3 0 3 0");
    }

    private static void lessSendAndWrite(Script s) {
        s.edge(21, "r is less, of SEND: DONE r, value 0, nothing else is done", """
                join 0
                receive 1 7
                receive 1 8
                send 0 21
                step 2 = 1
                cell 1 7 = 21
                put 1 7 3
                step 0 = 1
                count 0 = 2
                first = 0 1 0 2 0
                step 1 = 0
                first = 0 1 0 3 0
                end 1 4 = 1
                end 1 3 = 1
                cell 1 7 = 3
                cell 1 8 = 0
                count 3 = 1
                """);
        s.edge(21, "r is less, of SEND: also with no RECEIVES", "join 0", "receive 1 7", "send 0 21", "step 2 = 1",
                "step 0 = 1", "count 0 = 2", "first = 0 1 0 2 0", "step 1 = 0", "first = 0 1 0 3 0");
        s.edge(21, "r is less, of WRITE: nothing else is done, the KEY is not looked at", LINE, "store 0 21",
                "step 2 = 1", "put 1 0 9 = 21", "lock 1 0 = 0", "step 0 = 1", "cell 1 0 = 9", "end 1 0 = 1",
                "end 1 3 = 1", "step 1 = 0", "first = 0 1 0 3 0");
        s.edge(21, "r is less by 3", LINE, "delay 0 9", "store 0 1", "delay 0 1", "tick 0", "2 * step 0", "store 0 2",
                "2 * step 0", "store 0 3", "2 * step 0", "end 1 3 = 3", "first = 1 0 0 9 0", "step 0 = 1",
                "cell 1 0 = 3", "end 1 3 = 3", "first = 0 1 0 10 0");
    }

    private static void lessRead(Script s) {
        s.edge(21, "r is less, of READ: done again, as it is then", LINE, "put 1 0 40", "read 0 5", "step 2 = 1",
                "put 1 0 41", "step 0 = 1", "end 1 3 = 1", "first = 0 1 0 2 40", "step 1 = 0", "first = 0 1 0 3 41");
        s.edge(21, "r is less, of READ: EXPECTED, and that it has COMPLAINED, stay", LINE, "read 0 5", "step 0",
                "step 1", "store 0 1", "store 0 2", "step 1", "step 0", "end 1 7 = 1", "step 1 = 0", "tick 0 = 1",
                "step 0 = 1", "end 1 7 = 1", "end 1 3 = 1", "2 * step 1", "first = 0 1 0 4 0");
        s.edge(21, "r is less, of READ: that it has not COMPLAINED stays", LINE, "read 0 5", "step 2 = 1", "step 0 = 1",
                "end 1 7 = 0", "end 1 3 = 1");
        s.edge(21, "r is less, of READ: DENIED, and this END BREAKS", LINE, "receive 1 3", "read 0 5", "step 2 = 1",
                "lock 1 0", "step 0 = 1", "end 1 0 = 2", "end 1 3 = 1", "told 1 = 1 5 -1 2 3", "step 1 = 0",
                "first = 0 4 0 3 1");
        s.edge(21, "r is less, of READ: no CHANGES", LINE, "read 0 5", "step 2 = 1", "step 0 = 1", "end 1 8 = 0",
                "count 6 = 0");
    }

    private static void lessChanges(Script s) {
        for (int kind = ADD; kind <= SWAP; kind++) {
            s.edge(21, "r is less, of ADD, SWAP, the last of CHANGES: DONE r with what was told", LINE, WORK[kind],
                    "step 2 = 1", "cell 1 0 = 5", "put 1 0 0", "lock 1 0", "step 0 = 1", "cell 1 0 = 0", "end 1 0 = 1",
                    "end 1 8 = 1", "count 6 = 1", "step 1 = 0", "first = 0 1 0 3 0");
        }
        s.edge(21, "what was told: the largest number", LINE, "put 1 0 9999", "add 0 1 5", "step 2 = 1", "cell 1 0 = 0",
                "step 0 = 1", "step 1", "first = 0 1 0 3 9999");
        String third = LINE + """

                put 1 0 7
                delay 0 9
                add 0 1 5
                delay 0 1
                tick 0
                2 * step 0
                """;
        s.edge(21, "the one ahead of the last of CHANGES", third, "swap 0 8 9 5", "2 * step 0", "end 1 8 = 2",
                "first = 1 0 0 9 0", "step 0 = 1", "first = 0 1 0 10 7", "cell 1 0 = 9", "count 6 = 2");
        s.edge(21, "not among the last 2: nothing", third, "swap 0 8 9 5", "2 * step 0", "add 0 1 5", "2 * step 0",
                "end 1 8 = 2", "cell 1 0 = 10", "first = 1 0 0 9 0", "step 0 = 1", "count 0 = 0", "cell 1 0 = 10",
                "count 6 = 3", "end 1 3 = 3");
        s.edge(21, "the last 2 of 3, each with what was told of it", LINE, "put 1 0 10", "add 0 1 1", "2 * step 0",
                "swap 0 11 30 1", "add 0 5 2", "2 * step 0", "2 * step 1", "cell 1 0 = 35", "tick 0 = 1", "2 * step 0",
                "first = 0 1 1 5 11", "step 0 = 0", "first = 0 1 2 5 30", "step 0 = 0", "cell 0 1 = 11",
                "cell 0 2 = 30", "count 6 = 3");
        s.edge(21, "READ, WRITE between do not count among the last 2", third, "store 0 3", "2 * step 0", "read 0 4",
                "2 * step 0", "swap 0 3 4 5", "2 * step 0", "end 1 8 = 2", "first = 1 0 0 9 0", "step 0 = 1",
                "first = 0 1 0 10 7");
    }

    private static void expectedSend(Script s) {
        s.edge(21, "SEND, no RECEIVES: BUSY r, nothing else is done", "join 0", "send 0 9", "step 0 = 1", "count 0 = 1",
                "first = 0 3 0 2 0", "ends 1 = 1 0 0 0 0 0 0 0 0 0 0", "count 5 = 0", "count 3 = 0");
        s.edge(21, "SEND, the last of RECEIVES, then none", "join 0", "receive 1 11", "send 0 9999", "send 0 0",
                "step 0 = 1", "cell 1 11 = 9999", "end 1 4 = 0", "end 1 3 = 1", "told 1 = 1 5 0 0 9999", "step 0 = 1",
                "cell 1 11 = 9999", "end 1 3 = 1", "take 1 = NONE", "first = 0 1 0 2 0", "step 0 = 0",
                "first = 0 3 1 2 0");
        s.edge(21, "SEND, the first of 3 RECEIVES", "join 0", "receive 1 3", "receive 1 2", "receive 1 1", "send 0 0",
                "send 0 8", "step 0 = 1", "end 1 4 = 2", "told 1 = 1 5 0 0 0", "step 0 = 1", "cell 1 2 = 8",
                "cell 1 3 = 0", "cell 1 1 = 0", "told 1 = 1 5 1 0 8");
        s.edge(21, "SEND: no KEY is asked for, whatever the AIM", "text join 0;aim 0 3 11", "receive 1 3", "send 0 8",
                "step 0 = 1", "cell 1 3 = 8", "end 1 0 = 1");
        s.edge(21, "SEND: the RECEIVES of this END, not of the other at this HOST", "text join 0;join 1", "receive 3 3",
                "receive 0 4", "send 0 8", "step 0 = 1", "packet 1 = 3", "end 3 4 = 1", "end 0 4 = 1");
    }

    private static void reasons(Script s) {
        for (int kind = WRITE; kind <= SWAP; kind++) {
            int right = RIGHT[kind];
            String[] texts = {
                "aim 0 1 0;key 0 1 0 12 7", "aim 0 3 11;key 1 2 0 12 7",
                "aim 0 1 1;key 1 1 0 1 7", "aim 0 1 11;key 1 1 0 11 7", "aim 0 1 1;key 1 1 11 1 0",
                "aim 0 1 0;key 1 1 11 1 0", "aim 0 1 0;key 1 1 11 1 " + (7 - right),
                "aim 0 1 11;key 1 1 0 12 " + (7 - right)};
            int[] reasons = {1, 1, 2, 2, 2, 3, 3, 3};
            for (int i = 0; i < texts.length; i++) {
                s.edge(21, "REASON " + reasons[i] + " against KIND " + kind, "text join 0;" + texts[i], WORK[kind],
                        "step 0 = 1", "count 0 = 1", "first = 0 4 0 2 " + reasons[i], "ends 1 = 2 0 0 0 0 0 0 0 0 0 0",
                        "count 5 = 0", "count 6 = 0");
            }
            String[] good = {
                "aim 0 1 0;key 1 1 11 1 " + right, "aim 0 1 11;key 1 1 0 12 " + right, "aim 0 3 5;key 1 3 6 6 7"};
            for (String text : good) {
                s.edge(21, "let in, KIND " + kind, "text join 0;" + text, "put 1 11 0", WORK[kind], "step 0 = 1",
                        "packet 1 = 1", "end 1 0 = 1", "end 1 3 = 1", "cell 1 11 = " + (kind == READ ? 0 : 5));
            }
        }
    }

    private static void reasonsThen(Script s) {
        s.edge(21, "the KEY as it is when the REQUEST comes: gone", LINE, "store 0 5", "lock 1 0", "step 0 = 1",
                "first = 0 4 0 2 1");
        s.edge(21, "the KEY as it is when the REQUEST comes: shorter", LINE, "aim 0 0 1", "store 0 5", "key 1 0 0 1 7",
                "step 0 = 1", "first = 0 4 0 2 2");
        s.edge(21, "the KEY as it is when the REQUEST comes: made meanwhile", "join 0", "store 0 5", "key 1 0 0 1 2",
                "step 0 = 1", "first = 0 1 0 2 0", "cell 1 0 = 5");
        s.edge(21, "the AIM that it brings, not what it is then", LINE, "aim 0 0 2", "store 0 5", "aim 0 3 3",
                "step 0 = 1", "cell 1 2 = 5");
        s.edge(21, "the AIM of the END that asks, not of this END", LINE, "aim 1 3 3", "store 0 5", "step 0 = 1",
                "cell 1 0 = 5");
    }

    private static void denied(Script s) {
        s.edge(21, "DENIED: this END BREAKS; what it had is TOLD", "join 0", "send 1 1", "step 1", "receive 1 3",
                "store 0 5", "step 0 = 1", "told 1 = 1 0 0 2 0", "told 1 = 1 5 -1 2 3", "take 1 = NONE",
                "first = 0 4 0 2 1");
        s.edge(21, "DENIED: EXPECTED, COMPLAINED, CHANGES stay", LINE, "add 0 1 1", "2 * step 0", "store 0 1",
                "store 0 2", "step 1", "step 0", "end 1 7 = 1", "step 1 = 0", "lock 1 0", "tick 0 = 1", "step 0 = 1",
                "ends 1 = 2 0 0 1 0 0 0 1 1 0 0");
        s.edge(21, "DENIED: the next REQUEST comes to a BROKEN END", "join 0", "store 0 1", "store 0 2", "step 0 = 1",
                "key 1 0 0 12 7", "step 0 = 1", "cell 1 0 = 0", "count 0 = 1");
    }

    private static void readAndWrite(Script s) {
        s.edge(21, "WRITE: the least, the largest; DONE with 0", LINE, "put 1 0 5", "store 0 0", "step 0 = 1",
                "cell 1 0 = 0", "packet 4 = 0", "step 0", "store 0 9999", "step 0 = 1", "cell 1 0 = 9999",
                "packet 4 = 0");
        s.edge(21, "READ: the least, the largest is told", LINE, "read 0 5", "step 0 = 1", "packet 4 = 0", "step 0",
                "put 1 0 9999", "read 0 5", "step 0 = 1", "packet 4 = 9999", "cell 1 0 = 9999", "step 0",
                "cell 0 5 = 9999");
        s.edge(21, "the CELL of BASE and OFFSET together: the last", "text join 0;key 1 0 11 1 7", "store 0 5",
                "step 0", "cell 1 11 = 5", "count 5 = 5");
        s.edge(21, "the CELL of BASE and OFFSET together: the last by OFFSET", "text join 0;key 1 0 0 12 7;aim 0 0 11",
                "store 0 5", "step 0", "cell 1 11 = 5", "count 5 = 5");
        s.edge(21, "the CELL of BASE and OFFSET together: between", "text join 0;key 1 0 4 5 7;aim 0 0 3", "store 0 5",
                "step 0", "cell 1 7 = 5", "count 5 = 5");
        s.edge(21, "EXPECTED is r and 1, it has not COMPLAINED", LINE, "store 0 1", "step 0 = 1", "end 1 3 = 1",
                "end 1 7 = 0");
    }

    private static void adds(Script s) {
        int[][] sums = {
            {0, 0, 0}, {0, 9999, 9999}, {9999, 0, 9999}, {1, 9999, 0}, {9999, 1, 0}, {9998, 1, 9999}, {5000, 5000, 0},
            {4999, 5000, 9999}, {9999, 9999, 9998}, {9999, 2, 1}};
        for (int[] sum : sums) {
            s.edge(21, "ADD: what is left of it and v together by 10000", LINE, "put 1 0 " + sum[0],
                    "add 0 " + sum[1] + " 5", "step 0 = 1", "cell 1 0 = " + sum[2], "packet 4 = " + sum[0],
                    "step 0 = 0", "cell 0 5 = " + sum[0], "count 6 = 1");
        }
    }

    private static void swaps(Script s) {
        int[][] swaps = {
            {0, 0, 9999, 9999}, {9999, 9999, 0, 0}, {5, 5, 5, 5}, {5, 4, 9, 5}, {5, 6, 9, 5}, {0, 9999, 7, 0},
            {9999, 0, 7, 9999}};
        for (int[] swap : swaps) {
            s.edge(21, "SWAP: if it is v, it becomes w", LINE, "put 1 0 " + swap[0],
                    "swap 0 " + swap[1] + " " + swap[2] + " 5", "step 0 = 1", "cell 1 0 = " + swap[3],
                    "packet 4 = " + swap[0], "end 1 8 = 1", "step 0 = 0", "cell 0 5 = " + swap[0], "count 6 = 1");
        }
    }

    private static void changes(Script s) {
        s.edge(21, "CHANGES: none, 1, 2, and 2 yet", LINE, "end 1 8 = 0", "add 0 1 5", "step 0", "end 1 8 = 1",
                "step 0", "swap 0 1 2 5", "step 0", "end 1 8 = 2", "step 0", "add 0 1 5", "step 0", "end 1 8 = 2",
                "count 6 = 3", "end 0 8 = 0");
        s.edge(21, "CHANGES: of READ, WRITE, SEND none", LINE, "receive 1 3", "read 0 1", "store 0 1", "send 0 1",
                "3 * step 0", "end 1 8 = 0", "count 6 = 0");
        s.edge(21, "CHANGES: each END has its own", "text join 0;join 1;key 1 0 0 12 4", "add 0 1 5", "add 2 1 5",
                "2 * step 0", "end 1 8 = 1", "end 3 8 = 1", "cell 1 0 = 2", "count 6 = 2");
    }
}
