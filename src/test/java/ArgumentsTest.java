import java.util.Random;

/** Rule 7 of the language: no arguments in any state make a call throw, and all answers stay in their range. */
public final class ArgumentsTest {
    private static final int RUNS = 1500;
    private static final int[] EDGES = {
        Integer.MIN_VALUE, -256, -3, -2, -1, 0, 1, 2, 3, 4, 5, 7, 8, 9, 11, 12, 39, 40, 47, 48, 50, 51, 255, 256,
        Integer.MAX_VALUE - 3, Integer.MAX_VALUE};

    private final Random random;
    private final Guard x;

    private ArgumentsTest(int seed) {
        random = new Random(seed);
        x = new Guard(random.nextInt());
    }

    public static void main(String[] args) {
        Check.says("No call may ever throw by itself (rule 7 of the language)");
        for (int seed = 0; seed < RUNS; seed++) {
            ArgumentsTest run = new ArgumentsTest(seed);
            try {
                while (run.x.calls() < Guard.PROMISED - 1) {
                    run.any(run.random.nextInt(24));
                }
            } catch (RuntimeException e) {
                Check.yes("run " + seed + ", call " + run.x.calls() + ": " + e, false);
            }
            Check.yes("at most 40 wait", run.x.waiting() <= 40);
        }
        Check.end();
    }

    private int edge() {
        return EDGES[random.nextInt(EDGES.length)];
    }

    private int small() {
        return random.nextInt(4) == 0 ? edge() : random.nextInt(4);
    }

    private void any(int which) {
        switch (which) {
            case 0 -> x.user(small(), random.nextInt(2), small());
            case 1 -> x.host(small(), small(), random.nextInt(2), small());
            case 2 -> x.start(small(), random.nextBoolean());
            case 3 -> x.link(small(), random.nextInt(5) > 0);
            case 4 -> x.power(small(), random.nextInt(5) > 0);
            case 5 -> x.alter(small(), edge(), edge());
            case 6 -> x.draft(random.nextLong(), edge());
            case 7 -> x.forge(small(), small());
            case 8 -> x.tick();
            case 9 -> inRange("data", x.data(small(), small(), small()), -1, 15);
            case 10 -> inRange("message", x.message(small(), edge()), -1, 255);
            case 11 -> inRange("port", x.port(small(), edge()), -2, 65535);
            case 12 -> inRange("station", x.station(small(), edge()), -2, Guard.PROMISED);
            case 13 -> inRange("server", x.server(small(), edge()), -2, Guard.PROMISED);
            case 14 -> inRange("wrong", x.wrong(edge()), -1, Guard.PROMISED);
            case 15 -> inRange("learned", x.learned(edge()), -1, 3);
            case 16 -> x.pass(edge(), edge());
            case 17 -> x.draft(edge(), 1);
            default -> x.pass(random.nextInt(3), 0);
        }
    }

    private static void inRange(String call, int answer, int least, int most) {
        Check.yes(call + " answered " + answer, answer >= least && answer <= most);
    }
}
