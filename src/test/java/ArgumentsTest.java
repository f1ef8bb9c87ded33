import java.util.Random;

/** Rule 7 of the language: no arguments in any state make a call throw, and all answers stay in their range. */
public final class ArgumentsTest {
    private static final int[] EDGES = {
        Integer.MIN_VALUE, -256, -3, -2, -1, 0, 1, 2, 3, 4, 5, 7, 8, 9, 11, 12, 39, 40, 47, 48, 50, 51, 255, 256,
        Integer.MAX_VALUE - 3, Integer.MAX_VALUE};

    private final Random random;
    private final PortGuard x;

    private ArgumentsTest(int seed) {
        random = new Random(seed);
        x = new PortGuard(random.nextInt());
    }

    public static void main(String[] args) {
        for (int seed = 0; seed < 300; seed++) {
            ArgumentsTest run = new ArgumentsTest(seed);
            int call = 0;
            try {
                for (; call < 1500; call++) {
                    run.any(run.random.nextInt(24));
                }
            } catch (RuntimeException e) {
                Check.yes("run " + seed + ", call " + call + ": " + e, false);
            }
            Check.yes("at most 40 wait", run.x.waiting() <= 40);
        }
        Check.end();
    }

    private int edge() {
        return EDGES[random.nextInt(EDGES.length)];
    }

    private int small() {
        return random.nextInt(4) == 0 ? edge() : random.nextInt(4);
    }

    private void any(int which) {
        switch (which) {
            case 0 -> x.user(small(), random.nextInt(2), small());
            case 1 -> x.host(small(), small(), random.nextInt(2), small());
            case 2 -> x.start(small(), random.nextBoolean());
            case 3 -> x.link(small(), random.nextInt(5) > 0);
            case 4 -> x.power(small(), random.nextInt(5) > 0);
            case 5 -> x.alter(small(), edge(), edge());
            case 6 -> x.draft(random.nextLong(), edge());
            case 7 -> x.forge(small(), small());
            case 8 -> x.tick();
            case 9 -> x.data(small(), small(), small());
            case 10 -> x.message(small(), edge());
            case 11 -> x.port(small(), edge());
            case 12 -> x.station(small(), edge());
            case 13 -> x.server(small(), edge());
            case 14 -> x.wrong(edge());
            case 15 -> x.learned(edge());
            case 16 -> x.pass(edge(), edge());
            case 17 -> x.draft(edge(), 1);
            default -> x.pass(random.nextInt(3), 0);
        }
    }
}
