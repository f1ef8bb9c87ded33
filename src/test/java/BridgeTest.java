/** Promises 12 (data) and 19 (learned). */
public final class BridgeTest {
    public static void main(String[] args) {
        wrongInputs();
        carries();
        forgets();
        Check.end();
    }

    private static void wrongInputs() {
        Bench b = new Bench(1);
        b.open(0, 1);
        for (int i : new int[] {-1, 9, Integer.MIN_VALUE, Integer.MAX_VALUE}) {
            Check.due("port " + i, b.x.data(i, 0, 0), -1);
            Check.due("from " + i, b.x.data(0, i, 0), -1);
            Check.due("to " + i, b.x.data(0, 0, i), -1);
        }
        Check.due("port 4", b.x.data(4, 0, 0), -1);
        Check.due("from 8", b.x.data(0, 8, 0), -1);
        Check.due("a wrong address at a closed port", b.x.data(1, 8, 0), -1);
        Check.due("no traffic", b.x.port(0, 10), 0);
        Check.due("nothing learned", b.x.learned(0), -1);
        Check.due("a closed port", b.x.data(1, 0, 8), 0);
        Check.due("learns nothing", b.x.learned(0), -1);
        Check.due("and has no traffic", b.x.port(1, 10), 0);
    }

    private static void carries() {
        Bench b = new Bench(1);
        b.open(0, 1);
        b.open(1, 2);
        b.open(3, 3);
        Check.due("to all", b.x.data(0, 7, 8), 2 + 8);
        Check.due("learned", b.x.learned(7), 0);
        Check.due("to one that was learned at none", b.x.data(1, 0, 5), 1 + 8);
        Check.due("to one that was learned", b.x.data(3, 1, 7), 1);
        Check.due("to all, though much is learned", b.x.data(3, 1, 8), 1 + 2);
        Check.due("to one at the same port", b.x.data(0, 6, 7), 0);
        Check.due("to itself, learned just now", b.x.data(1, 5, 5), 0);
        Check.due("moved", b.x.data(1, 7, 6), 1);
        Check.due("learned anew", b.x.learned(7), 1);
        Check.due("found there", b.x.data(0, 6, 7), 2);
        Check.due("traffic", b.x.port(0, 10), 3);
        Check.due("traffic", b.x.port(1, 10), 3);
        Check.due("traffic", b.x.port(3, 10), 2);
        Check.due("traffic of the closed", b.x.port(2, 10), 0);
    }

    private static void forgets() {
        Bench b = new Bench(1);
        b.open(0, 1);
        b.open(1, 2);
        b.open(2, 3);
        b.x.data(0, 0, 8);
        b.x.data(0, 1, 8);
        b.x.data(1, 2, 8);
        b.x.start(0, true);
        b.x.pass(0, 0);
        Check.due("begin alone forgets nothing", b.x.learned(0), 0);
        Check.due("data passes while it is asked again", b.x.data(1, 2, 0), 1);
        b.x.start(0, false);
        b.x.pass(b.x.waiting() - 1, 0);
        Check.due("forgotten", b.x.learned(0), -1);
        Check.due("forgotten", b.x.learned(1), -1);
        Check.due("not that of another port", b.x.learned(2), 1);
        Check.due("to all others that are authorised", b.x.data(1, 2, 0), 4);
        b.x.link(1, false);
        Check.due("no link", b.x.learned(2), -1);
        Check.due("nobody is left", b.x.data(2, 2, 8), 0);
    }
}
