import java.util.Random;

/** Far more calls than the document's 512: their answers are free, but nothing may be thrown and each call ends. */
public final class LongTest {
    public static void main(String[] args) {
        Check check = new Check();
        for (int seed = 0; seed < 20; seed++) {
            check.isTrue("a long run that takes nothing", runs(new Random(seed), 20000));
        }
        check.finish();
    }

    private static boolean runs(Random random, int calls) {
        RemoteCells x = new RemoteCells();
        for (int i = 0; i < calls; i++) {
            int answer = call(x, random.nextInt(16), random.nextInt(4), random.nextInt(12));
            if (answer < RemoteCells.FULL) {
                return false;
            }
        }
        return x.count(2) > 0 && x.count(3) > 0;
    }

    private static int call(RemoteCells x, int which, int end, int n) {
        return switch (which) {
            case 0 -> x.join(end / 2);
            case 1 -> x.send(end, n);
            case 2 -> x.store(end, n);
            case 3 -> x.read(end, n);
            case 4 -> x.add(end, n, n);
            case 5 -> x.swap(end, n, n, n);
            case 6, 7 -> x.receive(end, n);
            case 8 -> x.tick(end);
            case 9 -> n == 0 ? x.tear(end) : x.write('a' + n);
            case 10 -> x.key(end % 2, end / 2, n / 2, 1 + n / 2, 7);
            case 11 -> x.delay(end / 2, 1 + n % 9);
            default -> x.step(n % 3);
        };
    }
}
