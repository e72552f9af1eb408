import java.util.Random;

/** No call throws, whatever its arguments, also when the 512th is long past. */
public final class NeverThrowsTest {
    private static final int CALLS = 300_000;
    private static final int[] EDGES = {Integer.MIN_VALUE, Integer.MIN_VALUE + 1, -2, -1, 0, 1, 2, 3, 4, 7, 8, 9,
        15, 16, 31, 32, 33, 39, 40, 41, 50, 51, Integer.MAX_VALUE - 1, Integer.MAX_VALUE};

    private static final Random RANDOM = new Random(512);

    public static void main(String[] args) {
        for (int lag : EDGES) {
            run(new InSyncLog(lag, any(), any()), CALLS / EDGES.length);
        }
        System.out.println("no call threw");
    }

    private static int any() {
        int kind = RANDOM.nextInt(10);
        return kind < 6 ? RANDOM.nextInt(4) : kind < 9 ? EDGES[RANDOM.nextInt(EDGES.length)] : RANDOM.nextInt();
    }

    private static void run(InSyncLog x, int calls) {
        for (int i = 0; i < calls; i++) {
            int a = any();
            int b = any();
            switch (RANDOM.nextInt(24)) {
                case 0 -> x.commit(a, b);
                case 1 -> x.readable(a, b);
                case 2 -> x.committed(a);
                case 3 -> x.lose(a);
                case 4 -> x.flight();
                case 5 -> x.message(a, b);
                case 6 -> x.review(a);
                case 7, 8 -> x.learn(a);
                case 9 -> x.crash(a);
                case 10, 11 -> x.restart(a);
                case 12 -> x.govern(RANDOM.nextBoolean() ? 0 : a);
                case 13 -> x.tick(a);
                case 14 -> x.controller(a);
                case 15 -> x.broker(a, b);
                case 16 -> x.epochAt(a, b);
                case 17 -> x.valueAt(a, b);
                case 18, 19 -> x.fetch(a);
                case 20, 21 -> x.deliver(a);
                default -> x.produce(a, b);
            }
        }
    }
}
