/** Promises 12 (data) and 19 (learned). */
public final class BridgeTest {
    public static void main(String[] args) {
        refused();
        notAuthorised();
        learns();
        countsTraffic();
        leavesWhereLearned();
        leavesAtAllOthers();
        learnedAtTheSamePort();
        learnedAtNone();
        Check.end();
    }

    /** Ports 0, 1 and 3 are authorised. */
    private static Bench open() {
        Bench b = new Bench(1);
        b.open(0, 1);
        b.open(1, 2);
        b.open(3, 3);
        return b;
    }

    private static void refused() {
        Check.says("-1, refused, if there is no port p or an address is none.");
        Bench b = open();
        b.x.data(1, 7, 8);
        for (int p : new int[] {-1, 4}) {
            b.refused("p " + p, f -> f.data(p, 0, 0) != -1);
        }
        for (int from : new int[] {-1, 8}) {
            b.refused("from " + from, f -> f.data(0, from, 0) != -1);
        }
        for (int to : new int[] {-1, 9}) {
            b.refused("to " + to, f -> f.data(0, 0, to) != -1);
        }
        for (int far : Bench.FAR) {
            b.refused("p " + far, f -> f.data(far, 0, 0) != -1);
            b.refused("from " + far, f -> f.data(0, far, 0) != -1);
            b.refused("to " + far, f -> f.data(0, 0, far) != -1);
        }
        b.refused("from 8 where it is not authorised", f -> f.data(2, 8, 0) != -1);
        b.refused("to 9 where it is not authorised", f -> f.data(2, 0, 9) != -1);
        Check.due("no traffic", b.x.port(0, 10), 0);
        Check.due("nothing learned", b.x.learned(0), -1);
    }

    private static void notAuthorised() {
        Check.says("0 if p is not authorised.");
        Bench b = open();
        for (int to = 0; to <= 8; to++) {
            Check.due("to " + to, b.x.data(2, 0, to), 0);
        }
        b.refused("data", f -> f.data(2, 0, 8) != 0);
        Check.due("nothing learned", b.x.learned(0), -1);
        Check.due("no traffic", b.x.port(2, 10), 0);
        b.x.link(2, true);
        Check.due("a link alone is not enough", b.x.data(2, 0, 8), 0);
        b.x.start(1, true);
        b.x.pass(b.waiting() - 1, 0);
        Check.due("ASKING, but authorised", b.x.data(1, 0, 8), 1 + 8);
        b.x.start(1, false);
        b.x.pass(b.waiting() - 1, 0);
        Check.due("after LOGOFF", b.x.data(1, 0, 8), 0);
    }

    private static void learns() {
        Check.says("Else the bridge learns that the first address is at p");
        Bench b = open();
        for (int from = 0; from < 8; from++) {
            b.x.data(3, from, 8);
            Check.due("address " + from, b.x.learned(from), 3);
        }
        b.x.data(0, 7, 8);
        Check.due("anew", b.x.learned(7), 0);
        Check.due("not the other ones", b.x.learned(6), 3);
        Check.due("found there now", b.x.data(1, 0, 7), 1);
    }

    private static void countsTraffic() {
        Check.says("TRAFFIC of p is 1 more");
        Bench b = open();
        for (int n = 0; n < 3; n++) {
            Check.due("of port 1", b.x.port(1, 10), n);
            b.x.data(1, 0, n * 4);
        }
        int[] due = {0, 3, 0, 0};
        for (int p = 0; p < 4; p++) {
            Check.due("of port " + p, b.x.port(p, 10), due[p]);
        }
    }

    private static void leavesWhereLearned() {
        Check.says("it leaves at the port where the second address was learned, if that is authorised and not p");
        Bench b = open();
        b.x.data(0, 0, 8);
        b.x.data(1, 1, 8);
        b.x.data(3, 7, 8);
        Check.due("at 0", b.x.data(1, 1, 0), 1);
        Check.due("at 1", b.x.data(0, 0, 1), 2);
        Check.due("at 3", b.x.data(0, 0, 7), 8);
        Check.due("not at p", b.x.data(1, 2, 1), 0);
        b.x.start(0, true);
        b.x.pass(0, 0);
        Check.due("ASKING, but authorised", b.x.data(1, 1, 0), 1);
        b.x.start(0, false);
        b.x.pass(b.waiting() - 1, 0);
        Check.due("closed, and so forgotten: at all others", b.x.data(1, 1, 0), 8);
    }

    private static void leavesAtAllOthers() {
        Check.says("at all other authorised ports if it is 8 or was learned at none");
        Bench b = open();
        Check.due("to all from 0", b.x.data(0, 0, 8), 2 + 8);
        Check.due("to all from 1", b.x.data(1, 1, 8), 1 + 8);
        Check.due("to all from 3", b.x.data(3, 3, 8), 1 + 2);
        Check.due("learned at none", b.x.data(0, 0, 7), 2 + 8);
        b.open(2, 4);
        Check.due("all four", b.x.data(0, 0, 8), 2 + 4 + 8);
        Check.due("all four", b.x.data(3, 3, 6), 1 + 2 + 4);
        for (int p = 1; p < 4; p++) {
            b.x.link(p, false);
        }
        Check.due("nobody is left", b.x.data(0, 0, 8), 0);
    }

    private static void learnedAtTheSamePort() {
        Check.says("the bridge learns ..., and it leaves at the port where the second address was learned");
        Bench b = open();
        Check.due("to itself, learned just now", b.x.data(1, 5, 5), 0);
        b.x.data(0, 6, 8);
        Check.due("to itself, learned elsewhere before", b.x.data(1, 6, 6), 0);
        Check.due("it is here now", b.x.learned(6), 1);
    }

    private static void learnedAtNone() {
        Check.says("The port where the bridge learned an address; -1 if at none.");
        Bench b = open();
        for (int a = 0; a < 8; a++) {
            Check.due("none yet", b.x.learned(a), -1);
            b.x.data(a % 2 * 3, a, 8);
            Check.due("learned", b.x.learned(a), a % 2 * 3);
        }
        Check.due("8 is all, and learned at none", b.x.learned(8), -1);
        Check.due("-1 is none", b.x.learned(-1), -1);
        for (int far : Bench.FAR) {
            Check.due("no address", b.x.learned(far), -1);
        }
    }
}
