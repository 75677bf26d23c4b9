import java.util.ArrayList;
import java.util.List;
import java.util.Random;

/**
 * Long runs of calls on the class and on Model: every answer must be the same, and nothing may be thrown.
 * The seeds are fixed, so each run of this test makes the same calls.
 */
public final class ModelTest {
    private static final int RUNS = 6000;
    private static final int CALLS = 512;
    private static final int[] WILD = {
        -1, 4, 5, 12, 10000, 256, 9999, -1001, Integer.MIN_VALUE, Integer.MAX_VALUE, 65536};
    private static final String[] BITS = {
        "all", "key", "cell", "delay", "aim", "join", ";", ";", " ", "  ", "0", "1", "2", "3", "11", "12", "13",
        "9999", "00001", "x", "joins", "A", "\t", "\u00ff", "\u0000", "-"};

    private final Random random;
    private final RemoteCells real = new RemoteCells();
    private final Model model = new Model();
    private final List<String> calls = new ArrayList<>();
    private final int style;
    private boolean right = true;

    private ModelTest(int seed) {
        random = new Random(seed);
        style = seed % 4;
    }

    public static void main(String[] args) {
        Check check = new Check();
        for (int seed = 0; seed < RUNS; seed++) {
            ModelTest run = new ModelTest(seed);
            run.run();
            check.isTrue("run of seed " + seed, run.right);
            if (!run.right) {
                run.calls.forEach(call -> System.out.println("  " + call));
                break;
            }
        }
        check.finish();
    }

    private void run() {
        if (style != 0) {
            tell("join 0;join 1;key 0 0 0 12 7;key 1 0 0 12 7;key 1 1 3 4 " + random.nextInt(8));
        }
        while (right && calls.size() < CALLS) {
            round();
        }
    }

    private void round() {
        int pick = random.nextInt(100);
        if (pick < 38) {
            work(random.nextInt(7));
        } else if (pick < 78) {
            int way = random.nextInt(style == 1 ? 4 : 9);
            call("step", wild(way <= 2 ? way : 0));
        } else if (pick < 92) {
            look(random.nextInt(7));
        } else if (pick < 98) {
            set(random.nextInt(7));
        } else if (random.nextInt(3) == 0) {
            text();
        }
    }

    private void work(int which) {
        int end = style == 2 ? 0 : random.nextInt(4);
        switch (which) {
            case 0 -> call("send", wild(end), wild(number()));
            case 1 -> call("store", wild(end), wild(number()));
            case 2 -> call("read", wild(end), wild(random.nextInt(12)));
            case 3 -> call("add", wild(end), wild(number()), wild(random.nextInt(12)));
            case 4 -> call("swap", wild(end), wild(number()), wild(number()), wild(random.nextInt(12)));
            case 5 -> call("receive", wild(end ^ 1), wild(random.nextInt(12)));
            default -> call("tick", wild(end));
        }
    }

    private void look(int which) {
        switch (which) {
            case 0 -> call("cell", wild(random.nextInt(2)), wild(random.nextInt(12)));
            case 1 -> call("take", wild(random.nextInt(2)));
            case 2 -> call("taken", wild(random.nextInt(6)));
            case 3 -> call("end", wild(random.nextInt(4)), wild(random.nextInt(11)));
            case 4 -> call("open", wild(random.nextInt(4)), wild(random.nextInt(4)), wild(random.nextInt(5)));
            case 5 -> call("packet", wild(random.nextInt(5)));
            default -> call("count", wild(random.nextInt(9)));
        }
    }

    private void set(int which) {
        switch (which) {
            case 0 -> call("put", wild(random.nextInt(2)), wild(random.nextInt(12)), wild(number()));
            case 1 -> call("key", wild(random.nextInt(2)), wild(random.nextInt(4)), wild(random.nextInt(4)),
                    wild(1 + random.nextInt(9)), wild(style == 3 ? 7 : random.nextInt(8)));
            case 2 -> call("lock", wild(random.nextInt(2)), wild(style == 3 ? 3 : random.nextInt(4)));
            case 3 -> call("door", wild(random.nextInt(2)), wild(random.nextInt(4)), wild(random.nextInt(3)));
            case 4 -> call("delay", wild(random.nextInt(2)), wild(1 + random.nextInt(9)));
            case 5 -> call("aim", wild(random.nextInt(4)), wild(random.nextInt(2)), wild(random.nextInt(8)));
            default -> joinOrTear();
        }
    }

    private void joinOrTear() {
        if (random.nextInt(3) == 0) {
            call("tear", wild(random.nextInt(4)));
        } else {
            int line = random.nextInt(2);
            call("join", wild(line));
            if (random.nextInt(3) == 0) {
                call("tear", 2 * line);
                call("tear", 2 * line + 1);
                call("join", line);
            }
        }
    }

    private void text() {
        StringBuilder text = new StringBuilder();
        int clauses = 1 + random.nextInt(4);
        for (int i = 0; i < clauses; i++) {
            text.append(i > 0 ? ";" : "").append(clause());
        }
        if (random.nextInt(3) == 0) {
            text.insert(random.nextInt(text.length() + 1), BITS[random.nextInt(BITS.length)]);
        }
        if (random.nextInt(6) == 0) {
            text.setLength(random.nextInt(text.length() + 1));
        }
        tell(text.toString());
        if (random.nextInt(2) == 0) {
            call("erase");
        }
    }

    private String clause() {
        int[] n = random.ints(5, 0, 13).toArray();
        return switch (random.nextInt(8)) {
            case 0 -> random.nextInt(6) == 0 ? "all" : "join 0";
            case 1 -> "key " + n[0] % 2 + " " + n[1] % 4 + " " + n[2] + "  " + n[3] % 8 + " " + n[4] % 9;
            case 2 -> "cell " + n[0] % 2 + " " + n[1] + " " + random.nextInt(11000);
            case 3 -> " delay " + n[0] % 2 + " " + n[1] % 11;
            case 4 -> "aim " + n[0] % 4 + " " + n[1] % 4 + " " + n[2] + " ";
            case 5 -> "join " + n[0] % 2;
            case 6 -> "all;all ; join 1; join 0";
            default -> BITS[random.nextInt(BITS.length)] + BITS[random.nextInt(BITS.length)];
        };
    }

    private void tell(String text) {
        for (int i = 0; i < text.length(); i++) {
            call("write", text.charAt(i));
        }
        call("fault");
        call("tell");
    }

    private int number() {
        return random.nextInt(3) == 0 ? 9990 + random.nextInt(10) : random.nextInt(3);
    }

    private int wild(int n) {
        return random.nextInt(60) == 0 ? WILD[random.nextInt(WILD.length)] : n;
    }

    private void call(String name, int... a) {
        if (!right || calls.size() >= CALLS) {
            return;
        }
        int want = model.call(name, a);
        int got = Calls.call(real, name, a);
        String told = Calls.written(name, a) + " answered " + got;
        if (got != want) {
            right = false;
            told += ", due is " + want;
        }
        calls.add(told);
    }
}
