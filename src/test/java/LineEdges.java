/** Promises 11 to 14: join, tear, delay, aim; and lines, ends, delays among the terms. */
final class LineEdges {
    private static final String[] NO_LINE = {"-1", "2", "MIN", "MAX"};
    private static final String[] NO_END = {"-1", "4", "MIN", "MAX"};

    private LineEdges() { }

    static void run(Script s) {
        joinRefuses(s);
        joinCounts(s);
        joinMakesNew(s);
        joinKeepsTheRest(s);
        tearRefuses(s);
        tearCounts(s);
        tearTells(s);
        delay(s);
        aimRefuses(s);
        aim(s);
    }

    private static void joinRefuses(Script s) {
        for (String line : NO_LINE) {
            s.always(11, "UNKNOWN: no such LINE", "join " + line, "UNKNOWN");
        }
        s.edge(11, "NOT: both its ENDS are READY", "join 0 = 2", "join 0 = NOT", "join 1 = 4", "join 1 = NOT");
        for (int end = 0; end < 4; end++) {
            int line = end / 2;
            int other = end % 2 == 0 ? end + 1 : end - 1;
            s.edge(11, "NOT: one of its ENDS is READY", "join " + line + " = 2", "send " + other + " 1 = 0",
                    "tear " + end + " = 0", "join " + line + " = NOT", "count 4 = 1", "end " + other + " 1 = 1");
        }
    }

    private static void joinCounts(Script s) {
        s.edge(11, "how many of all ENDS are READY: 2, 4", "join 0 = 2", "join 1 = 4", "count 4 = 4");
        s.edge(11, "how many of all ENDS are READY: 3", "join 1 = 2", "tear 3 = 0", "join 0 = 3", "count 4 = 3");
        s.edge(11, "how many of all ENDS are READY: 2 when the other LINE is BROKEN",
                "join 1 = 2", "tear 3 = 0", "tear 2 = 0", "join 0 = 2");
        s.edge(11, "END e is of the LINE e by 2", "join 0 = 2", "end 0 0 = 1", "end 1 0 = 1", "end 2 0 = 0",
                "end 3 0 = 0");
        s.edge(11, "END e is of the LINE e by 2", "join 1 = 2", "end 0 0 = 0", "end 1 0 = 0", "end 2 0 = 1",
                "end 3 0 = 1");
    }

    private static void joinMakesNew(Script s) {
        s.edge(11, "all else of both ENDS is as at first, but the AIM", """
                text join 0;key 1 0 0 12 7;key 0 0 0 12 7;aim 0 0 3;aim 1 0 4
                add 0 1 0 = 0
                add 1 1 0 = 0
                4 * step 0
                send 0 1 = 1
                store 0 2 = 2
                step 1
                step 0
                send 1 5 = 1
                receive 1 6
                tick 0 = 1
                ends 0 = 1 3 2 1 0 1 0 0 1 0 3
                ends 1 = 1 2 1 1 1 0 0 1 1 0 4
                tear 0 = 2
                tear 1 = 2
                ends 0 = 2 3 0 1 0 0 0 0 1 0 3
                ends 1 = 2 2 0 1 0 0 0 1 1 0 4
                join 0 = 2
                ends 0 = 1 0 0 0 0 0 0 0 0 0 3
                ends 1 = 1 0 0 0 0 0 0 0 0 0 4
                """);
        s.edge(11, "numbers begin again at 0", """
                text join 0;key 1 0 0 12 7
                store 0 5 = 0
                2 * step 0
                store 0 6 = 1
                2 * step 0
                tear 0 = 0
                tear 1 = 0
                join 0 = 2
                store 0 7 = 0
                step 0 = 1
                cell 1 0 = 7
                end 1 3 = 1
                """);
        s.edge(11, "CHANGES are none: an old number is not told again", """
                text join 0;key 1 0 0 12 7
                add 0 5 1 = 0
                2 * step 0
                tear 0 = 0
                tear 1 = 0
                join 0 = 2
                add 0 6 1 = 0
                step 0 = 1
                cell 1 0 = 11
                first = 0 1 0 4 5
                """);
    }

    private static void joinKeepsTheRest(Script s) {
        s.edge(11, "PACKETS of the LINE are no more, and are not lost", """
                join 0 = 2
                4 * send 0 1
                4 * send 1 1
                tear 0 = 4
                tear 1 = 4
                count 0 = 8
                join 0 = 2
                count 0 = 0
                count 8 = 0
                packet 0 = NOT
                step 0 = NOT
                """);
        s.edge(11, "PACKETS of the other LINE stay, in their order", """
                text join 0;join 1;delay 0 2;delay 1 3
                send 0 1 = 0
                send 2 2 = 0
                send 1 3 = 0
                send 3 4 = 0
                send 0 5 = 1
                tear 0 = 2
                tear 1 = 1
                join 0 = 4
                count 0 = 2
                first = 3 0 0 3 0
                step 1 = 3
                first = 2 0 0 3 0
                """);
        s.edge(11, "NOW, DELAY, CELLS, KEYS, what waits, what was taken stay", """
                text join 0;delay 0 7;key 1 0 0 12 7;cell 0 5 6
                add 0 8 1 = 0
                2 * step 0
                take 0 = 0
                store 0 1 = 1
                tear 0 = 1
                tear 1 = 0
                join 0 = 2
                count 1 = 14
                count 2 = 1
                count 6 = 1
                cell 1 0 = 8
                cell 0 5 = 6
                door 1 0 1 = 12
                taken 2 = 3
                send 0 1 = 0
                packet 3 = 21
                """);
    }

    private static void tearRefuses(Script s) {
        for (String end : NO_END) {
            s.always(12, "UNKNOWN: no such END", "tear " + end, "UNKNOWN");
        }
        for (int end = 0; end < 4; end++) {
            s.edge(12, "NOT: it is APART", "tear " + end + " = NOT", "end " + end + " 0 = 0");
            s.edge(12, "NOT: it is BROKEN", "join 0 = 2", "join 1 = 4", "tear " + end + " = 0",
                    "tear " + end + " = NOT", "end " + end + " 0 = 2", "count 4 = 3");
        }
    }

    private static void tearCounts(Script s) {
        for (int end = 0; end < 4; end++) {
            String join = "join " + end / 2;
            int other = end % 2 == 0 ? end + 1 : end - 1;
            s.edge(12, "it had none", join, "tear " + end + " = 0", "count 2 = 0", "count 3 = 0",
                    "end " + other + " 0 = 1");
            s.edge(12, "it had 4 OPEN WORKS and 3 RECEIVES", join, "4 * send " + end + " 5",
                    "3 * receive " + end + " 6", "tear " + end + " = 7", "count " + (2 + end % 2) + " = 7",
                    "count " + (3 - end % 2) + " = 0", "end " + end + " 2 = 0", "end " + end + " 4 = 0",
                    "end " + other + " 0 = 1");
        }
        s.edge(12, "WORKS alone", "join 0", "store 0 1", "tear 0 = 1");
        s.edge(12, "RECEIVES alone", "join 0", "receive 0 1", "receive 0 2", "tear 0 = 2");
        s.edge(12, "what the OTHER has stays", "join 0", "send 1 1", "receive 1 2", "tear 0 = 0", "end 1 2 = 1",
                "end 1 4 = 1");
    }

    private static void tearTells(Script s) {
        s.edge(12, "OPEN WORKS, the oldest first; then RECEIVES", """
                join 1
                receive 3 11
                swap 3 1 2 3 = 0
                receive 3 0
                store 3 4 = 1
                read 3 5 = 2
                receive 3 11
                send 3 6 = 3
                tick 3 = 1
                tear 3 = 7
                end 3 5 = 0
                told 1 = 3 4 0 2 0
                told 1 = 3 1 1 2 0
                told 1 = 3 2 2 2 0
                told 1 = 3 0 3 2 0
                told 1 = 3 5 -1 2 11
                told 1 = 3 5 -1 2 0
                told 1 = 3 5 -1 2 11
                take 1 = NONE
                take 0 = NONE
                """);
        s.edge(12, "PACKETS stay, and come to no END that is BROKEN", """
                text join 0;key 1 0 0 1 7;key 0 0 0 1 7
                store 0 1 = 0
                store 1 2 = 0
                tear 0 = 1
                count 0 = 2
                step 0 = 1
                cell 1 0 = 1
                step 0 = 0
                cell 0 0 = 0
                """);
    }

    private static void delay(Script s) {
        for (String line : NO_LINE) {
            s.always(13, "UNKNOWN: no such LINE", "delay " + line + " 1", "UNKNOWN");
            s.always(13, "UNKNOWN is ahead of OUTSIDE", "delay " + line + " 0", "UNKNOWN");
        }
        for (String d : new String[] {"0", "10", "-1", "MIN", "MAX"}) {
            s.always(13, "DELAY (1 .. 9), OUTSIDE", "delay 0 " + d, "OUTSIDE");
            s.always(13, "DELAY (1 .. 9), OUTSIDE", "delay 1 " + d, "OUTSIDE");
        }
        s.edge(13, "the least and the largest, and what it was", "delay 0 9 = 1", "delay 0 9 = 9", "delay 0 1 = 9",
                "delay 0 1 = 1");
        s.edge(13, "each LINE has its own", "delay 1 9 = 1", "delay 0 8 = 1", "delay 1 1 = 9", "delay 0 1 = 8");
        s.edge(13, "refused, it stays", "delay 1 9 = 1", "delay 1 10 = OUTSIDE", "delay 1 0 = OUTSIDE",
                "delay 1 1 = 9");
        s.edge(13, "DUE by the DELAY as it is when it is SENT: the largest, the least", "join 0", "delay 0 9",
                "send 0 1", "packet 3 = 9", "delay 0 1", "packet 3 = 9", "send 0 2", "first = 1 0 1 1 0");
        s.edge(13, "DUE at NOW and the DELAY, together", "text join 0;join 1;delay 0 4;delay 1 9", "send 0 1",
                "step 0 = 1", "count 1 = 4", "send 2 1", "step 1 = 0", "first = 3 0 0 13 0");
    }

    private static void aimRefuses(Script s) {
        for (String end : NO_END) {
            s.always(14, "UNKNOWN: no such END", "aim " + end + " 0 0", "UNKNOWN");
            s.always(14, "UNKNOWN (END) is ahead of OUTSIDE", "aim " + end + " 0 12", "UNKNOWN");
        }
        for (String key : new String[] {"-1", "4", "MIN", "MAX"}) {
            s.always(14, "UNKNOWN: no such KEY's number", "aim 1 " + key + " 0", "UNKNOWN");
            s.always(14, "UNKNOWN (KEY's number) is ahead of OUTSIDE", "aim 1 " + key + " -1", "UNKNOWN");
        }
        for (String offset : new String[] {"-1", "12", "MIN", "MAX"}) {
            s.always(14, "OFFSET (0 .. 11), OUTSIDE", "aim 1 0 " + offset, "OUTSIDE");
        }
    }

    private static void aim(Script s) {
        for (int end = 0; end < 4; end++) {
            String aim = "aim " + end + " ";
            s.edge(14, "0, 0 at first; 1 another one, 0 the same", aim + "0 0 = 0", aim + "0 11 = 1", aim + "0 11 = 0",
                    aim + "3 11 = 1", aim + "3 11 = 0", aim + "3 0 = 1", aim + "0 0 = 1",
                    aim + "3 11 = 1", "end " + end + " 9 = 3", "end " + end + " 10 = 11");
        }
        s.edge(14, "one END's alone", "aim 1 2 3 = 1", "end 0 9 = 0", "end 0 10 = 0", "end 2 9 = 0", "end 3 10 = 0");
        s.edge(14, "refused, it stays", "aim 0 2 3 = 1", "aim 0 2 12 = OUTSIDE", "aim 0 4 3 = UNKNOWN",
                "aim 0 2 3 = 0");
        s.edge(14, "APART, READY, BROKEN: it can be set and stays", "aim 0 1 1 = 1", "join 0", "aim 0 1 1 = 0",
                "aim 0 2 2 = 1", "tear 0", "aim 0 2 2 = 0", "aim 0 3 3 = 1", "tear 1", "join 0 = 2", "aim 0 3 3 = 0");
        s.edge(14, "a KEY's number of which no HOST has a KEY", "aim 0 3 11 = 1", "door 1 3 0 = NOT");
    }
}
