/** Promises 1 to 5: a new object; write, erase, fault, tell; and THE TEXT among the terms. */
final class TextEdges {
    private static final String ZEROS = "0 0 0 0 0 0 0 0 0 0 0";
    private static final String MOST_CLAUSES = "all;".repeat(23) + "all";

    /** A clause of the document: its word, and of each number the least and the largest. */
    private record Clause(String word, int[] least, int[] most) {
        String with(int place, String number) {
            StringBuilder text = new StringBuilder(word);
            for (int i = 0; i < least.length; i++) {
                text.append(' ').append(i == place ? number : String.valueOf(least[i]));
            }
            return text.toString();
        }

        /** Where the number at that place begins, when the others ahead of it have one digit. */
        int placeOf(int place) {
            return word.length() + 1 + 2 * place;
        }

        String upTo(int numbers) {
            return with(-1, "").substring(0, word.length() + 2 * numbers);
        }
    }

    private static final Clause[] CLAUSES = {
        new Clause("all", new int[] {}, new int[] {}),
        new Clause("key", new int[] {0, 0, 0, 1, 0}, new int[] {1, 3, 11, 12, 7}),
        new Clause("cell", new int[] {0, 0, 0}, new int[] {1, 11, 9999}),
        new Clause("delay", new int[] {0, 1}, new int[] {1, 9}),
        new Clause("aim", new int[] {0, 0, 0}, new int[] {3, 3, 11}),
        new Clause("join", new int[] {0}, new int[] {1})
    };

    private TextEdges() { }

    static void run(Script s) {
        newObject(s);
        the512thCall(s);
        write(s);
        erase(s);
        faultOfNumbers(s);
        faultOfLengths(s);
        faultOfWords(s);
        faultOfLetters(s);
        faultAtTheEnd(s);
        faultOfClauses(s);
        tellRefuses(s);
        tellCounts(s);
        tellDoesEachClause(s);
        tellJoins(s);
        tellAll(s);
        tellInOrder(s);
    }

    private static void newObject(Script s) {
        for (int what = 0; what <= 8; what++) {
            s.edge(1, "all as at first, count", "count " + what + " = 0");
        }
        for (int end = 0; end < 4; end++) {
            s.edge(1, "all as at first, END", "ends " + end + " = " + ZEROS, "open " + end + " 0 0 = UNKNOWN");
        }
        for (int host = 0; host < 2; host++) {
            for (int cell = 0; cell < 12; cell++) {
                s.edge(1, "CELLS, 0 at first", "cell " + host + " " + cell + " = 0");
            }
            for (int key = 0; key < 4; key++) {
                s.edge(1, "KEYS, none at first", "door " + host + " " + key + " 0 = NOT",
                        "lock " + host + " " + key + " = NOT");
            }
            s.edge(1, "nothing waits at first", "take " + host + " = NONE");
        }
        for (int what = 0; what <= 5; what++) {
            s.edge(1, "nothing was taken at first", "taken " + what + " = NONE");
        }
        for (int what = 0; what <= 4; what++) {
            s.edge(1, "PACKETS, none at first", "packet " + what + " = NOT");
        }
        s.edge(1, "DELAY, 1 at first", "delay 0 1 = 1", "delay 1 1 = 1");
        s.edge(1, "THE TEXT is empty at first", "fault = 0", "tell = NOT", "erase = 0");
        s.edge(1, "nothing to step at first", "step 0 = NOT", "step 1 = NOT", "step 2 = NOT");
    }

    private static void the512thCall(Script s) {
        s.edge(1, "used for at most 512 calls: the last is answered",
                "join 0 = 2", "510 * aim 0 3 11", "join 1 = 4");
        s.edge(1, "used for at most 512 calls: the last WORK is done", """
                text join 0;key 1 0 0 1 7
                490 * count 0
                send 0 1 = 0
                """);
    }

    private static void write(Script s) {
        for (String letter : new String[] {"-1", "256", "MIN", "MAX"}) {
            s.always(2, "a letter (its number, 0 .. 255), OUTSIDE", "write " + letter, "OUTSIDE");
        }
        StringBuilder each = new StringBuilder();
        for (int letter = 0; letter <= 255; letter++) {
            each.append("write ").append(letter).append(" = 1\nerase = 1\n");
        }
        s.edge(2, "every letter from 0 to 255", each.toString());
        StringBuilder all = new StringBuilder();
        for (int many = 1; many <= 200; many++) {
            all.append("write 97 = ").append(many).append('\n');
        }
        s.edge(2, "200 at most: the first to the last; then FULL", all.toString(), "write 97 = FULL", "write 0 = FULL",
                "write 255 = FULL", "count 7 = 200");
        s.edge(2, "OUTSIDE is ahead of FULL", "200 * write 97", "write 256 = OUTSIDE", "write -1 = OUTSIDE");
        s.edge(2, "once it is erased it begins again", "200 * write 97", "write 97 = FULL", "erase = 200",
                "write 97 = 1");
        s.edge(2, "once it is told it begins again", "letters all", "tell = 1", "write 97 = 1");
        s.edge(2, "FULL, and what was written last is kept",
                "196 * write 32", "letters join", "write 48 = FULL", "fault = 200", "tell = NOT");
    }

    private static void erase(Script s) {
        s.edge(3, "empty: how many letters it had", "erase = 0", "erase = 0", "count 7 = 0");
        s.edge(3, "one letter", "write 0 = 1", "erase = 1", "erase = 0");
        s.edge(3, "200 letters", "200 * write 97", "erase = 200", "count 7 = 0", "erase = 0");
        s.edge(3, "empty as at first: fault, tell", "letters all", "erase = 3", "fault = 0", "tell = NOT");
        s.edge(3, "a text with a FAULT goes, too", "letters all all", "fault = 4", "erase = 7", "letters all",
                "fault = NONE");
        s.edge(3, "its clauses are not done", "letters cell 0 0 5", "erase = 10", "cell 0 0 = 0");
        s.edge(3, "all but THE TEXT stays", "text join 0;cell 0 0 5", "send 0 1 = 0", "letters all", "erase = 3",
                "cell 0 0 = 5", "count 0 = 1", "end 0 2 = 1", "count 4 = 2");
    }

    private static void faultOfNumbers(Script s) {
        for (Clause clause : CLAUSES) {
            s.fault(4, "each number the least", clause.with(-1, ""), -1);
            for (int i = 0; i < clause.least.length; i++) {
                int at = clause.placeOf(i);
                s.fault(4, "the largest number", clause.with(i, String.valueOf(clause.most[i])), -1);
                s.fault(4, "a number too large", clause.with(i, String.valueOf(clause.most[i] + 1)), at);
                s.fault(4, "a number far too large", clause.with(i, "99999999999999999999"), at);
                s.fault(4, "a number that an int would take for 1", clause.with(i, "4294967297"), at);
                s.fault(4, "4 digits", clause.with(i, "000" + clause.least[i]), -1);
                s.fault(4, "of more digits than 4", clause.with(i, "0000" + clause.least[i]), at);
                s.fault(4, "a number below 0", clause.with(i, "-1"), at);
                s.fault(4, "a word for a number", clause.with(i, "a"), at);
                s.fault(4, "a ; for a number", clause.with(i, ";"), at);
                if (clause.least[i] > 0) {
                    s.fault(4, "a number too small", clause.with(i, "0"), at);
                    s.fault(4, "a number too small, of 4 digits", clause.with(i, "0000"), at);
                }
            }
            s.fault(4, "one number too many", clause.with(-1, "") + " 0", clause.with(-1, "").length() + 1);
        }
        s.fault(4, "the largest of CELL, of 5 digits", "cell 0 0 10000", 9);
    }

    private static void faultOfLengths(Script s) {
        for (int base = 0; base <= 11; base++) {
            String start = "key 1 2 " + base + " ";
            int at = start.length();
            s.fault(4, "an M of 12 less B", start + (12 - base) + " 7", -1);
            s.fault(4, "an M above 12 less B", start + (13 - base) + " 7", at);
            s.fault(4, "an M below 1", start + "0 7", at);
            s.fault(4, "an M above 12 less B, and the text ends there", start + (13 - base), at);
            s.fault(4, "an M of 12 less B, and the text ends there", start + (12 - base),
                    (start + (12 - base)).length());
        }
    }

    private static void faultOfWords(Script s) {
        for (Clause clause : CLAUSES) {
            String text = clause.with(-1, "");
            String behind = text.substring(clause.word.length());
            String shorter = clause.word.substring(0, clause.word.length() - 1);
            s.fault(4, "a word with a letter less", shorter + behind, 0);
            s.fault(4, "a word with a letter more", clause.word + "a" + behind, 0);
            s.fault(4, "a word with a letter ahead", "a" + clause.word + behind, 0);
            s.fault(4, "a word with a great letter",
                    (char) (clause.word.charAt(0) - 32) + clause.word.substring(1) + behind, 0);
            for (int i = 0; i < clause.word.length(); i++) {
                char next = (char) (clause.word.charAt(i) + 1);
                String other = clause.word.substring(0, i) + next + clause.word.substring(i + 1);
                s.fault(4, "a word with another letter", other + behind, 0);
            }
            s.fault(4, "a word in two", clause.word.charAt(0) + " " + clause.word.substring(1) + behind, 0);
            s.fault(4, "a clause behind a clause, without ;", text + " " + text, text.length() + 1);
            s.fault(4, "a clause behind a clause", text + ";" + text, -1);
            s.fault(4, "blanks ahead, behind, around ;", "  " + text + "  ;  " + text + "  ", -1);
        }
        s.fault(4, "blanks need not stand where tokens part", "join0;cell1 11 9999;aim3 3 11", -1);
        s.fault(4, "digits that no blank parts are one number", "cell 011 5", 5);
        s.fault(4, "a number for a word", "0", 0);
        s.fault(4, "a number for the second word", "all;0", 4);
    }

    /** Each of the 256 letters behind a clause that could end there. */
    private static void faultOfLetters(Script s) {
        for (int letter = 0; letter <= 255; letter++) {
            char c = (char) letter;
            boolean small = c >= 'a' && c <= 'z';
            boolean digit = c >= '0' && c <= '9';
            int behindWord = c == ' ' ? -1 : c == ';' ? 4 : small ? 0 : 3;
            int behindNumber = c == ' ' || c == '0' || c == '1' ? -1 : c == ';' ? 7 : digit ? 5 : 6;
            s.fault(4, "letter " + letter + " behind a word", "all" + c, behindWord);
            s.fault(4, "letter " + letter + " behind a number", "join 0" + c, behindNumber);
            s.fault(4, "letter " + letter + " alone", " " + c, c == ' ' ? 2 : 1);
            s.fault(4, "letter " + letter + " twice: the first is the TOKEN", "all " + c + c,
                    c == ' ' ? -1 : c == ';' ? 5 : 4);
        }
    }

    private static void faultAtTheEnd(Script s) {
        s.fault(4, "at the end, if it comes too soon: empty", "", 0);
        s.fault(4, "at the end, if it comes too soon: a blank", " ", 1);
        s.fault(4, "at the end, if it comes too soon: 200 blanks", " ".repeat(200), 200);
        s.fault(4, "a ; with nothing ahead", ";", 0);
        s.fault(4, "a ; with nothing ahead", " ;all", 1);
        s.fault(4, "a ; with nothing behind", "all;", 4);
        s.fault(4, "a ; with blanks behind", "all;  ", 6);
        s.fault(4, "a ; behind a ;", "all;;all", 4);
        s.fault(4, "a ; behind a ; and a blank", "all; ;all", 5);
        for (Clause clause : CLAUSES) {
            for (int i = 0; i < clause.least.length; i++) {
                String text = clause.upTo(i);
                s.fault(4, "at the end, a number is missing", text, text.length());
                s.fault(4, "behind blanks at the end, a number is missing", text + "   ", text.length() + 3);
                s.fault(4, "at the end of the second clause", "all;" + text, text.length() + 4);
            }
        }
        s.fault(4, "the last of 200 letters", " ".repeat(196) + "all.", 199);
        s.fault(4, "the last TOKEN of 200 letters", " ".repeat(194) + "join 2", 199);
        s.fault(4, "200 letters, too short", " ".repeat(195) + "join ", 200);
        s.fault(4, "200 letters without a FAULT", " ".repeat(197) + "all", -1);
        s.fault(4, "200 letters, most of them behind", "join 1" + " ".repeat(194), -1);
    }

    private static void faultOfClauses(Script s) {
        s.fault(4, "24 CLAUSES at most: 24", MOST_CLAUSES, -1);
        s.fault(4, "24 CLAUSES at most: 24 and blanks", MOST_CLAUSES + "   ", -1);
        s.fault(4, "24 CLAUSES at most: a ; behind the 24th", MOST_CLAUSES + ";", 95);
        s.fault(4, "24 CLAUSES at most: 25", MOST_CLAUSES + ";all", 95);
        s.fault(4, "24 CLAUSES at most: 25, behind a blank", MOST_CLAUSES + " ; all", 96);
        s.fault(4, "24 CLAUSES at most: 50", MOST_CLAUSES + ";" + MOST_CLAUSES, 95);
        s.fault(4, "a FAULT in the 24th", "all;".repeat(23) + "al", 92);
        s.fault(4, "the 24th is missing", "all;".repeat(23), 92);
        s.fault(4, "the first FAULT of two", "al;join 2", 0);
        s.fault(4, "the first FAULT of two, the second in the same clause", "key 2 4 0 1 0", 4);
        s.fault(4, "the first FAULT, and the end too soon behind it", "aim 0 4", 6);
        s.edge(4, "fault changes nothing; NONE, then a FAULT, then NONE", "letters join 0", "fault = NONE",
                "fault = NONE", "letters ;", "fault = 7", "letters join 1", "fault = NONE", "count 7 = 13",
                "count 4 = 0", "tell = 2");
    }

    private static void tellRefuses(Script s) {
        s.edge(5, "NOT: it has a FAULT: empty", "tell = NOT", "tell = NOT", "count 7 = 0");
        s.edge(5, "NOT: it has a FAULT at the first TOKEN", "letters x", "tell = NOT", "count 7 = 1", "fault = 0");
        s.edge(5, "NOT: it has a FAULT at the end; no clause is done", """
                letters cell 0 0 5;key 0 0 0 1 7;delay 0 9;aim 0 1 1;join 0;all;
                tell = NOT
                cell 0 0 = 0
                door 0 0 0 = NOT
                delay 0 1 = 1
                end 0 9 = 0
                count 4 = 0
                """);
        s.edge(5, "NOT: 25 CLAUSES", "24 * letters all;", "letters all", "tell = NOT", "count 7 = 99", "fault = 95");
        s.edge(5, "NOT: 200 letters, the end comes too soon", "195 * write 32", "letters aim 0", "tell = NOT",
                "count 7 = 200");
        s.edge(5, "mended it is told", "letters join", "tell = NOT", "letters 1", "tell = 1", "count 4 = 2");
    }

    private static void tellCounts(Script s) {
        s.edge(5, "how many there were: 1", "letters all", "tell = 1", "count 7 = 0", "tell = NOT");
        s.edge(5, "how many there were: 24", "23 * letters all;", "letters all", "tell = 24", "count 7 = 0",
                "fault = 0");
        s.edge(5, "200 letters", "17 * letters cell 0 0 1;", "letters cell 0  1  2;", "write 97 = FULL", "fault = 200",
                "tell = NOT", "erase = 200");
        s.edge(5, "200 letters are told", "17 * letters cell 0 0 1;", "letters cell 1 11 999", "write 97 = FULL",
                "fault = NONE", "tell = 18", "cell 1 11 = 999", "cell 0 0 = 1");
        s.edge(5, "a join that joins nothing counts, too", "letters join 0;join 0;join 0", "tell = 3", "count 4 = 2");
        s.edge(5, "told again it is written again", "text join 0", "letters join 0", "tell = 1", "tell = NOT");
    }

    private static void tellDoesEachClause(Script s) {
        s.edge(5, "key: the least numbers", "text key 0 0 0 1 0", "door 0 0 0 = 0", "door 0 0 1 = 1", "door 0 0 2 = 0");
        s.edge(5, "key: the largest B", "text key 1 3 11 1 7", "door 1 3 0 = 11", "door 1 3 1 = 1", "door 1 3 2 = 7");
        s.edge(5, "key: the largest M", "text key 1 3 0 12 7", "door 1 3 0 = 0", "door 1 3 1 = 12", "door 1 3 2 = 7");
        s.edge(5, "key: for that which there was", "key 0 1 2 3 4 = 1", "text key 0 1 5 6 7", "door 0 1 0 = 5",
                "door 0 1 1 = 6", "door 0 1 2 = 7", "lock 0 1 = 0");
        s.edge(5, "key: others stay", "key 0 1 2 3 4 = 1", "text key 0 2 5 6 7", "door 0 1 0 = 2", "door 1 2 0 = NOT",
                "key 0 1 0 1 0 = 2");
        s.edge(5, "cell: the least and the largest", "put 0 0 7 = 0", "text cell 0 0 0;cell 1 11 9999", "cell 0 0 = 0",
                "cell 1 11 = 9999", "count 5 = 9999");
        s.edge(5, "cell: of 4 digits", "text cell 0001 0010 0012", "cell 1 10 = 12");
        s.edge(5, "delay: the least and the largest", "delay 0 5 = 1", "text delay 0 1;delay 1 9", "delay 0 1 = 1",
                "delay 1 1 = 9");
        s.edge(5, "delay: PACKETS under way keep their DUE", "join 0 = 2", "send 0 1 = 0", "text delay 0 9",
                "packet 3 = 1", "step 1 = 1", "tick 0 = 1", "packet 3 = 9");
        s.edge(5, "aim: the least and the largest", "aim 0 3 3 = 1", "text aim 0 0 0;aim 3 3 11", "aim 0 0 0 = 0",
                "aim 3 3 11 = 0", "end 1 9 = 0", "end 2 10 = 0");
        s.edge(5, "aim: an OPEN WORK keeps its own", "join 0 = 2", "store 0 1 = 0", "text aim 0 2 2", "open 0 0 2 = 0",
                "open 0 0 3 = 0");
        s.edge(5, "what there was stays", "put 0 5 6 = 0", "join 1 = 2", "send 2 1 = 0", "text cell 0 4 1",
                "cell 0 5 = 6", "end 2 2 = 1", "count 0 = 1");
    }

    private static void tellJoins(Script s) {
        s.edge(5, "join: the least LINE", "text join 0", "end 0 0 = 1", "end 1 0 = 1", "end 2 0 = 0", "end 3 0 = 0");
        s.edge(5, "join: the largest LINE", "text join 1", "end 0 0 = 0", "end 1 0 = 0", "end 2 0 = 1", "end 3 0 = 1");
        s.edge(5, "join: not if both its ENDS are READY", "join 0 = 2", "send 0 1 = 0", "receive 1 2 = 1",
                "text join 0", "end 0 1 = 1", "end 1 4 = 1", "count 0 = 1");
        s.edge(5, "join: not if its first END is READY", "join 0 = 2", "send 0 1 = 0", "tear 1 = 0", "text join 0",
                "end 1 0 = 2", "end 0 2 = 1", "count 0 = 1");
        s.edge(5, "join: not if its second END is READY", "join 0 = 2", "send 1 1 = 0", "tear 0 = 0", "text join 0",
                "end 0 0 = 2", "end 1 2 = 1", "count 0 = 1");
        s.edge(5, "join: if both are BROKEN; all else as at first but the AIM", """
                join 1 = 2
                aim 2 1 5
                send 2 1 = 0
                send 3 1 = 0
                tear 2 = 1
                tear 3 = 1
                letters join 1
                tell = 1
                ends 2 = 1 0 0 0 0 0 0 0 0 1 5
                ends 3 = 1 0 0 0 0 0 0 0 0 0 0
                count 0 = 0
                count 8 = 0
                count 2 = 1
                """);
        s.edge(5, "join: by what its ENDS are then, not ahead of all", "join 0 = 2", "text join 0;all;join 0;aim 0 1 1",
                "ends 0 = 1 0 0 0 0 0 0 0 0 1 1");
    }

    private static void tellAll(Script s) {
        String much = """
                text join 0;join 1;key 1 0 0 1 7;cell 0 3 5;delay 0 3;delay 1 4;aim 1 1 1
                add 0 7 1 = 0
                2 * step 0
                take 0 = 0
                store 0 6 = 1
                2 * step 0
                send 0 1 = 2
                store 0 2 = 3
                2 * step 0
                step 0 = 0
                step 1 = 0
                tick 0 = 1
                receive 0 4 = 1
                receive 3 5 = 1
                tear 3 = 1
                ends 0 = 1 4 2 0 1 1 1 0 0 0 0
                ends 1 = 1 0 0 2 0 0 0 1 1 1 1
                count 0 = 2
                count 2 = 1
                count 3 = 1
                count 6 = 1
                count 8 = 1
                """;
        s.edge(5, "all: all is as at first, but THE TEXT", much, "text all",
                "ends 0 = " + ZEROS, "ends 1 = " + ZEROS, "ends 2 = " + ZEROS, "ends 3 = " + ZEROS,
                "count 0 = 0", "count 1 = 0", "count 2 = 0", "count 3 = 0", "count 4 = 0", "count 5 = 0", "count 6 = 0",
                "count 7 = 0", "count 8 = 0", "door 1 0 0 = NOT", "delay 0 1 = 1", "delay 1 1 = 1", "packet 0 = NOT",
                "take 0 = NONE", "take 1 = NONE", "taken 0 = NONE", "taken 5 = NONE", "open 0 0 0 = UNKNOWN",
                "step 0 = NOT", "tick 0 = NOT", "tear 0 = NOT");
        s.edge(5, "all: THE TEXT goes on behind it", "letters cell 0 0 5;all;cell 0 1 6;all;cell 0 2 7", "tell = 5",
                "cell 0 0 = 0", "cell 0 1 = 0", "cell 0 2 = 7");
        s.edge(5, "all: numbers begin again", much, "text all;join 0;key 1 0 0 1 7", "store 0 9 = 0",
                "first = 1 0 0 1 0", "step 0 = 1", "cell 1 0 = 9", "first = 0 1 0 2 0", "step 0 = 0",
                "told 0 = 0 1 0 0 0", "take 0 = NONE");
        s.edge(5, "all: what waited is gone, what is TOLD then is the first", much, "text all;join 0;join 1",
                "send 0 1", "tear 0 = 1", "receive 3 9", "tear 3 = 1", "count 2 = 1", "count 3 = 1",
                "told 0 = 0 0 0 2 0", "take 0 = NONE", "told 1 = 3 5 -1 2 9", "take 1 = NONE");
        s.edge(5, "all: what ENDS knew of CHANGES is gone", much, "text all;join 0;key 1 0 0 1 4", "end 1 8 = 0",
                "add 0 3 1 = 0", "step 0 = 1", "cell 1 0 = 3", "count 6 = 1", "end 1 8 = 1");
    }

    private static void tellInOrder(Script s) {
        s.edge(5, "CLAUSES are done in their order: the last of two", "text cell 0 0 1;cell 0 0 2", "cell 0 0 = 2");
        StringBuilder many = new StringBuilder("letters ");
        for (int i = 0; i < 9; i++) {
            many.append(i > 0 ? ";" : "").append("cell 1 5 ").append(9 - i).append(";delay 1 ").append(1 + i % 9);
        }
        s.edge(5, "CLAUSES are done in their order: of eighteen", many.toString(), "tell = 18", "cell 1 5 = 1",
                "delay 1 1 = 9");
        s.edge(5, "CLAUSES are done in their order: of keys", "text key 0 0 0 12 7;key 0 0 11 1 0", "door 0 0 0 = 11",
                "door 0 0 1 = 1", "door 0 0 2 = 0");
    }
}
