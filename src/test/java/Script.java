import java.util.ArrayList;
import java.util.Arrays;
import java.util.List;
import java.util.Set;

/**
 * Runs small scripts of calls, each for one sentence of the document. A line is a call and the answer that is due:
 *
 *   send 0 9999 = 0          the call must answer that
 *   send 0 1                 the call must be done, whatever it answers
 *   4 * send 0 1             four such calls
 *   letters all;             the letters are written
 *   text join 0;join 1       the letters are written and told
 *   told 0 = E K N R V       take(0), and all that taken() tells then
 *   first = T A N D V        all that packet() tells
 *   ends 0 = ...             all that end(0, ..) tells
 *
 * After each call that is refused, or only looks, a twin that did not make it must be the same in all that can
 * be seen. Model must give the same answers, too. No object is used for more than 512 calls.
 */
final class Script {
    static final int MOST_CALLS = 512;
    private static final int PROMISES = 28;
    private static final Set<String> LOOKS = Set.of("fault", "cell", "door", "taken", "end", "open", "packet", "count");

    /** States in which a number that is not as told must be refused all the same, ahead of NOT and FULL. */
    private static final String[] SCENES = {
        "",
        """
        text join 0;key 1 0 0 12 7;key 0 1 2 3 5;aim 0 0 3;aim 1 1 1;cell 1 3 40
        delay 1 4
        add 0 5 1
        2 * step 0
        take 0
        store 0 6
        send 0 7
        read 0 2
        receive 1 8
        receive 0 9
        read 1 4
        step 1
        step 0
        tick 0
        letters cell 0 0 9;joi
        """,
        """
        text join 0;join 1
        4 * send 0 1
        4 * send 1 2
        4 * store 2 3
        4 * send 3 4
        tick 0
        tick 1
        3 * receive 0 1
        3 * receive 1 2
        3 * receive 2 3
        3 * receive 3 4
        17 * letters cell 0 0 1;
        letters cell 0  1  2;
        """,
        """
        text join 0;join 1;key 0 3 0 1 0
        send 0 1
        receive 1 5
        send 2 6
        tear 0
        tear 1
        tear 2
        take 1
        letters all
        """
    };

    private record Call(String name, int[] args, Integer due) {
        boolean isStill() {
            return LOOKS.contains(name) || due != null && (isRefusal(due) || due == RemoteCells.NONE);
        }

        String written() {
            return Calls.written(name, args);
        }
    }

    private final Check check = new Check();
    private final int[] edges = new int[PROMISES + 1];

    /** One sentence of the promise, and calls that would answer otherwise if it were broken. */
    void edge(int promise, String sentence, String... lines) {
        edges[promise]++;
        run("promise " + promise + ", " + sentence, parsed(lines));
    }

    /** A call that is refused in every state. */
    void always(int promise, String sentence, String call, String due) {
        for (String scene : SCENES) {
            edge(promise, sentence, scene, call + " = " + due);
        }
    }

    /** The fault of a text, whatever its letters are; with a fault it cannot be told. */
    void fault(int promise, String sentence, String text, int due) {
        edges[promise]++;
        List<Call> calls = new ArrayList<>();
        addLetters(calls, text);
        calls.add(new Call("fault", new int[0], due));
        if (due != RemoteCells.NONE) {
            calls.add(new Call("tell", new int[0], RemoteCells.NOT));
            calls.add(new Call("count", new int[] {7}, text.length()));
        }
        run("promise " + promise + ", " + sentence + " \"" + text + "\"", calls);
    }

    void finish() {
        for (int promise = 1; promise <= PROMISES; promise++) {
            check.isTrue("promise " + promise + " has an edge", edges[promise] > 0);
        }
        System.out.println(Arrays.stream(edges).sum() + " edges");
        check.finish();
    }

    static boolean isRefusal(int answer) {
        return answer <= RemoteCells.UNKNOWN && answer >= RemoteCells.FULL;
    }

    // -- reading

    private static List<Call> parsed(String... lines) {
        List<Call> calls = new ArrayList<>();
        for (String block : lines) {
            block.lines().map(String::strip).filter(line -> !line.isEmpty()).forEach(line -> addLine(calls, line));
        }
        return calls;
    }

    private static void addLine(List<Call> calls, String line) {
        if (line.startsWith("letters ")) {
            addLetters(calls, line.substring(8));
            return;
        }
        if (line.startsWith("text ")) {
            addLetters(calls, line.substring(5));
            calls.add(new Call("tell", new int[0], null));
            return;
        }
        int star = line.indexOf(" * ");
        if (star > 0) {
            for (int i = Integer.parseInt(line.substring(0, star)); i > 0; i--) {
                addLine(calls, line.substring(star + 3));
            }
            return;
        }
        String[] sides = line.split("=");
        String[] words = sides[0].strip().split(" +");
        int[] args = numbers(Arrays.copyOfRange(words, 1, words.length));
        int[] due = sides.length > 1 ? numbers(sides[1].strip().split(" +")) : new int[0];
        addCall(calls, words[0], args, due);
    }

    private static void addCall(List<Call> calls, String name, int[] args, int[] due) {
        switch (name) {
            case "told" -> {
                need(due, 5, name);
                calls.add(new Call("take", args, due[3]));
                calls.add(new Call("taken", new int[] {0}, args[0]));
                for (int i = 0; i < 5; i++) {
                    calls.add(new Call("taken", new int[] {i + 1}, due[i]));
                }
            }
            case "first" -> {
                need(due, 5, name);
                for (int i = 0; i < 5; i++) {
                    calls.add(new Call("packet", new int[] {i}, due[i]));
                }
            }
            case "ends" -> {
                need(due, 11, name);
                for (int i = 0; i < 11; i++) {
                    calls.add(new Call("end", new int[] {args[0], i}, due[i]));
                }
            }
            default -> calls.add(new Call(name, args, due.length == 0 ? null : due[0]));
        }
    }

    private static void need(int[] due, int many, String name) {
        if (due.length != many) {
            throw new IllegalArgumentException("a line " + name + " needs " + many + " numbers behind =");
        }
    }

    private static void addLetters(List<Call> calls, String letters) {
        for (char letter : letters.toCharArray()) {
            calls.add(new Call("write", new int[] {letter}, null));
        }
    }

    private static int[] numbers(String[] words) {
        return Arrays.stream(words).mapToInt(Script::number).toArray();
    }

    private static int number(String word) {
        return switch (word) {
            case "NONE" -> RemoteCells.NONE;
            case "UNKNOWN" -> RemoteCells.UNKNOWN;
            case "OUTSIDE" -> RemoteCells.OUTSIDE;
            case "NOT" -> RemoteCells.NOT;
            case "FULL" -> RemoteCells.FULL;
            case "MIN" -> Integer.MIN_VALUE;
            case "MAX" -> Integer.MAX_VALUE;
            default -> Integer.parseInt(word);
        };
    }

    // -- running

    private void run(String title, List<Call> calls) {
        if (calls.size() > MOST_CALLS) {
            throw new IllegalArgumentException(title + " has " + calls.size() + " calls");
        }
        RemoteCells x = new RemoteCells();
        Model model = new Model();
        for (int i = 0; i < calls.size(); i++) {
            Call call = calls.get(i);
            String what = title + ": call " + (i + 1) + ", " + call.written();
            int answer = Calls.call(x, call.name, call.args);
            if (call.due == null) {
                check.isTrue(what + " is done (it answered " + answer + ")", !isRefusal(answer));
            } else {
                check.is(what, answer, call.due);
            }
            check.is(what + " (due is what Model answered)", answer, model.call(call.name, call.args));
            if (call.isStill()) {
                compareTwins(what, calls, i);
            }
        }
    }

    /** Two objects with all calls ahead of that one, of which one makes it, too. */
    private void compareTwins(String what, List<Call> calls, int at) {
        Traced without = replayed(calls, at);
        Traced with = replayed(calls, at);
        Call still = calls.get(at);
        Calls.call(with.x, still.name, still.args);
        with.trace();
        without.trace();
        int other = Arrays.mismatch(numbersOf(with.answers), numbersOf(without.answers));
        String asked = other < 0 ? "all" : with.asked.get(Math.min(other, with.asked.size() - 1));
        check.isTrue(what + " changes nothing: " + asked, other < 0);
    }

    private static int[] numbersOf(List<Integer> list) {
        return list.stream().mapToInt(Integer::intValue).toArray();
    }

    private static Traced replayed(List<Call> calls, int until) {
        // the call that is looked at counts among the 512, too
        Traced twin = new Traced(until + 1);
        for (Call call : calls.subList(0, until)) {
            Calls.call(twin.x, call.name, call.args);
        }
        return twin;
    }

    /** An object, and all that can be seen of it with the calls that it has left. */
    private static final class Traced {
        final RemoteCells x = new RemoteCells();
        final List<Integer> answers = new ArrayList<>();
        final List<String> asked = new ArrayList<>();
        int used;

        Traced(int used) {
            this.used = used;
        }

        int ask(String name, int... args) {
            if (used >= MOST_CALLS) {
                return RemoteCells.UNKNOWN;
            }
            used++;
            int answer = Calls.call(x, name, args);
            asked.add(Calls.written(name, args));
            answers.add(answer);
            return answer;
        }

        /** What is deepest in the object comes first, as long as there are calls. */
        void trace() {
            row("count", 8);
            row("packet", 4);
            row("taken", 5);
            ask("fault");
            for (int end = 0; end < 4; end++) {
                for (int what = 0; what <= 10; what++) {
                    ask("end", end, what);
                }
            }
            works();
            doors();
            cells();
            notices();
            ask("delay", 0, 1);
            ask("delay", 1, 1);
            packets();
            notices();
            cells();
            ask("tell");
            doors();
            cells();
        }

        private void row(String name, int most) {
            for (int what = 0; what <= most; what++) {
                ask(name, what);
            }
        }

        private void works() {
            for (int end = 0; end < 4; end++) {
                for (int i = 0; i < 4 && !isRefusal(ask("open", end, i, 0)); i++) {
                    for (int what = 1; what <= 4; what++) {
                        ask("open", end, i, what);
                    }
                }
            }
        }

        private void doors() {
            for (int host = 0; host < 2; host++) {
                for (int key = 0; key < 4; key++) {
                    if (!isRefusal(ask("door", host, key, 0))) {
                        ask("door", host, key, 1);
                        ask("door", host, key, 2);
                    }
                }
            }
        }

        private void cells() {
            for (int host = 0; host < 2; host++) {
                for (int cell = 0; cell < 12; cell++) {
                    ask("cell", host, cell);
                }
            }
        }

        private void notices() {
            for (int host = 0; host < 2; host++) {
                for (int i = 0; i < 40 && ask("take", host) >= 0; i++) {
                    row("taken", 5);
                }
            }
        }

        private void packets() {
            for (int i = 0; i < 60 && ask("packet", 3) >= 0; i++) {
                ask("packet", 1);
                ask("packet", 2);
                ask("packet", 4);
                ask("step", 0);
            }
        }
    }
}
