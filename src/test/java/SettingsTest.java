/** Promises 2 (user), 3 (host), 4 (start), 5 (link) and 6 (power). */
public final class SettingsTest {
    private static final int KEY = 12;

    public static void main(String[] args) {
        userRefused();
        userKnown();
        userAgain();
        hostRefused();
        hostTaken();
        hostForgets();
        hostCountsOn();
        startRefused();
        startSends();
        startForgets();
        linkRefused();
        linkOn();
        linkOff();
        linkOffLeavesTheRest();
        powerRefused();
        powerOff();
        powerOnAgain();
        powerOfOneServer();
        Check.end();
    }

    private static void userRefused() {
        Check.says("False, refused, if u is not 0 .. 7 or methods not 1 .. 3.");
        Bench b = Bench.busy();
        for (int u : new int[] {-1, 8}) {
            b.refused("u " + u, f -> f.user(u, 77, 1));
        }
        for (int methods : new int[] {-1, 0, 4}) {
            b.refused("methods " + methods, f -> f.user(5, 77, methods));
        }
        for (int far : Bench.FAR) {
            b.refused("u " + far, f -> f.user(far, 77, 1));
            b.refused("methods " + far, f -> f.user(5, 77, far));
        }
        for (int u = 0; u < 8; u++) {
            for (int methods = 1; methods <= 3; methods++) {
                Check.yes("u " + u + ", methods " + methods, b.x.user(u, 77, methods));
            }
        }
    }

    /** Whether a host with this user, key and methods is let in at port 3. */
    private static boolean letIn(Bench b, int u, int key, int methods) {
        b.x.host(3, u, key, methods);
        b.x.link(3, true);
        b.passAll();
        boolean open = b.x.port(3, 0) == 3;
        b.x.link(3, false);
        return open;
    }

    private static void userKnown() {
        Check.says("User u is known with a key and methods");
        for (int u : new int[] {0, 7}) {
            for (int key : new int[] {0, -1, Integer.MIN_VALUE, Integer.MAX_VALUE}) {
                Bench b = new Bench(KEY);
                Check.no("not known", letIn(b, u, key, 3));
                b.x.user(u, key, 3);
                Check.yes("by CHALLENGE", letIn(b, u, key, 1));
                Check.yes("by MUTUAL", letIn(b, u, key, 2));
                Check.no("another key", letIn(b, u, key + 1, 1));
                Check.no("another key", letIn(b, u, key + 1, 2));
                Check.no("no method", letIn(b, u, key, 0));
                Check.no("another user", letIn(b, u ^ 1, key, 3));
            }
        }
    }

    private static void userAgain() {
        Check.says("again: the new ones count from now on");
        Bench b = new Bench(KEY);
        b.x.user(2, 5, 1);
        b.x.user(2, 6, 2);
        Check.no("the old key", letIn(b, 2, 5, 2));
        Check.no("the old method", letIn(b, 2, 6, 1));
        Check.yes("the new ones", letIn(b, 2, 6, 2));
        b = new Bench(KEY);
        b.x.user(2, 5, 1);
        b.x.host(0, 2, 6, 1);
        b.x.link(0, true);
        b.pass(5);
        b.x.user(2, 6, 1);
        b.passAll();
        Check.due("amid a challenge", b.x.port(0, 0), 3);
    }

    private static void hostRefused() {
        Check.says("False, refused, if there is no host h, u is not -1 .. 7, or methods not 0 .. 3.");
        Bench b = Bench.busy();
        for (int h : new int[] {-1, 4}) {
            b.refused("h " + h, f -> f.host(h, 5, 77, 1));
        }
        for (int h = 0; h < 4; h++) {
            int at = h;
            b.refused("u -2", f -> f.host(at, -2, 77, 1));
            b.refused("u 8", f -> f.host(at, 8, 77, 1));
            b.refused("methods -1", f -> f.host(at, 5, 77, -1));
            b.refused("methods 4", f -> f.host(at, 5, 77, 4));
            b.refused("no user, but methods 4", f -> f.host(at, -1, 77, 4));
        }
        for (int far : Bench.FAR) {
            b.refused("h " + far, f -> f.host(far, 5, 77, 1));
            b.refused("u " + far, f -> f.host(1, far, 77, 1));
            b.refused("methods " + far, f -> f.host(1, 5, 77, far));
        }
    }

    private static void hostTaken() {
        Check.says("Host h has user u (-1: none), a key and methods");
        for (int h = 0; h < 4; h++) {
            for (int u : new int[] {-1, 0, 7}) {
                for (int methods = 0; methods <= 3; methods++) {
                    Bench b = new Bench(KEY);
                    Check.yes("host", b.x.host(h, u, 77, methods));
                    Check.bytes("the station", b.view().station(h), 0, 0, -1, u, 0);
                    Check.due("the next host has none", b.x.station(h + 1 & 3, 3), -1);
                }
            }
        }
        Bench b = new Bench(KEY);
        b.x.host(1, 7, 77, 1);
        Check.yes("none again", b.x.host(1, -1, 77, 1));
        Check.due("none", b.x.station(1, 3), -1);
        Check.no("and so it can't start", b.x.start(1, true));
    }

    /** Host 1 was let in by a mutual proof, so that it has all that a host may have. */
    private static Bench proved() {
        Bench b = new Bench(KEY);
        b.x.user(0, 9, 2);
        b.x.host(1, 0, 9, 2);
        b.x.link(1, true);
        b.passAll();
        Check.bytes("it has all", b.view().station(1), 1, 1, 2, 0, 1);
        return b;
    }

    /** A request that the host answers if it has THEIRS still. */
    private static int[] proofOnceMore(int id) {
        int theirs = Wire.hash(Wire.four(9), Wire.row(0), Wire.four(0));
        int ours = Wire.hash(Wire.four(9), Wire.row(1), Wire.four(0));
        int mac = Wire.mac(9, Wire.row(3), Wire.four(ours), Wire.four(theirs));
        return Wire.frame(Wire.packet(1, id, Wire.cat(Wire.row(51, 3), Wire.four(mac))));
    }

    private static void forgets(Bench b, int waitingThen) {
        Check.bytes("LATEST and proof are gone, RESULT is 0", b.view().station(1), 0, 0, -1, 0, 1);
        b.bring(1, 1, proofOnceMore(77));
        Check.due("THEIRS is gone", b.waiting(), waitingThen);
        b.bring(1, 1, Wire.frame(Wire.packet(1, 2, 1)));
        Check.bytes("LATEST is gone", b.latest(), 0, 2, 2, 5, 1, 0);
    }

    private static void hostForgets() {
        Check.says("LATEST, THEIRS and proof are gone, RESULT is 0");
        Bench b = proved();
        b.bring(1, 1, proofOnceMore(78));
        Check.due("THEIRS is there", b.waiting(), 1);
        b.loseAll();
        b.x.host(1, 0, 9, 2);
        forgets(b, 0);
    }

    private static void hostCountsOn() {
        Check.says("(its randoms are counted on)");
        Bench b = proved();
        b.x.host(1, -1, 0, 0);
        Check.due("without user", b.x.station(1, 4), 1);
        b.x.host(1, 0, 9, 2);
        b.bring(1, 1, 0, 1, 5, 9, 51, 1, 0, 0, 0, 0);
        Check.due("the second", b.x.station(1, 4), 2);
        Check.due("its random", Wire.number(b.latest(), 6), Wire.hash(Wire.four(9), Wire.row(1), Wire.four(1)));
    }

    private static void startRefused() {
        Check.says("False, refused, if there is no host h or it has no user.");
        Bench b = Bench.busy();
        b.x.host(3, -1, 5, 1);
        for (boolean on : new boolean[] {true, false}) {
            for (int h : new int[] {-1, 3, 4}) {
                b.refused("h " + h, f -> f.start(h, on));
            }
            for (int far : Bench.FAR) {
                b.refused("h " + far, f -> f.start(far, on));
            }
        }
        b.x.host(3, 0, 5, 1);
        Check.yes("user 0 is a user", b.x.start(3, true));
    }

    private static void startSends() {
        Check.says("Host h sends START (on) or LOGOFF");
        for (int h = 0; h < 4; h++) {
            Bench b = new Bench(KEY);
            b.x.host(h, 0, 0, 0);
            Check.yes("START", b.x.start(h, true));
            Check.yes("LOGOFF", b.x.start(h, false));
            Check.due("two wait", b.x.waiting(), 2);
            Check.bytes("START", b.bytes(0), 1);
            Check.bytes("LOGOFF", b.bytes(1), 2);
            for (int k = 0; k < 2; k++) {
                Check.due("its way", b.x.message(k, 0), 0);
                Check.due("its place", b.x.message(k, 1), h);
            }
        }
    }

    private static void startForgets() {
        Check.says("LATEST, THEIRS and proof are gone, RESULT is 0.");
        for (boolean on : new boolean[] {true, false}) {
            Bench b = proved();
            b.x.start(1, on);
            forgets(b, 1);
        }
    }

    private static void linkRefused() {
        Check.says("False, refused, if there is no port p, or it is so already.");
        Bench b = Bench.busy();
        for (int p : new int[] {-1, 4}) {
            for (boolean on : new boolean[] {true, false}) {
                b.refused("p " + p, f -> f.link(p, on));
            }
        }
        for (int far : Bench.FAR) {
            b.refused("p " + far, f -> f.link(far, true));
            b.refused("p " + far, f -> f.link(far, false));
        }
        for (int p = 0; p < 4; p++) {
            int at = p;
            b.refused("on already", f -> f.link(at, true));
        }
        b.x.link(1, false);
        b.refused("off already", f -> f.link(1, false));
        new Bench(KEY).refused("off at first", f -> f.link(0, false));
    }

    private static void linkOn() {
        Check.says("Port p gets a link (on): begin");
        for (int p = 0; p < 4; p++) {
            Bench b = new Bench(KEY);
            Check.yes("on", b.x.link(p, true));
            b.port("begin", p, 1, 0, 1, 0, 0, -1, 0, -1, -1, 0, 0, 1);
            Check.bytes("the request", b.latest(), 0, 1, 0, 4, 1);
            Check.due("its way", b.x.message(0, 0), 1);
            Check.due("its place", b.x.message(0, 1), p);
        }
    }

    private static void linkOff() {
        Check.says("or loses it: close, OFF, no query, nothing is awaited");
        Bench b = new Bench(KEY);
        b.open(0, 2);
        b.x.data(0, 4, 5);
        Check.yes("off when OPEN", b.x.link(0, false));
        b.port("close, OFF", 0, 0, 0, 0, 0, 0, -1, 0, 2, 0, 1, 1, 2);
        Check.due("the bridge forgot", b.x.learned(4), -1);
        b.x.link(1, true);
        b.ticks(7);
        Check.yes("off when ASKING", b.x.link(1, false));
        b.port("nothing is awaited", 1, 0, 0, 0, 1, 2, -1, 0, -1, -1, 0, 0, 1);
        b.query(2, 3);
        b.ticks(5);
        b.x.link(2, false);
        b.port("no query", 2, 0, 0, 0, 0, 1, -1, 0, 3, -1, 0, 0, 1);
        b.query(3, 3);
        b.ticks(16);
        b.x.link(3, false);
        b.port("off when HELD", 3, 0, 0, 0, 0, 0, -1, 0, 3, -1, 0, 0, 1);
        b.ticks(31);
        b.port("and nothing comes then", 3, 0, 0, 0, 0, 0, -1, 0, 3, -1, 0, 0, 1);
    }

    private static void linkOffLeavesTheRest() {
        Check.says("(all else stays, the NEXT id too)");
        Bench b = new Bench(KEY);
        b.open(0, 2);
        b.x.data(0, 4, 8);
        b.x.data(0, 4, 8);
        b.ticks(9);
        b.x.link(0, false);
        b.port("user, TOKEN, VISITS, TRAFFIC, CLOCK and NEXT id", 0, 0, 0, 0, 0, 9, -1, 0, 2, 0, 1, 2, 2);
        b.x.link(0, true);
        b.port("on again: begin", 0, 1, 0, 1, 0, 0, -1, 0, 2, -1, 1, 2, 3);
        Check.bytes("with the NEXT id", b.latest(), 0, 1, 2, 4, 1);
        b.passAll();
        b.port("a second visit", 0, 3, 1, 0, 0, 0, -1, 0, 2, 1, 2, 0, 4);
    }

    private static void powerRefused() {
        Check.says("False, refused, if there is no server s, or it is so already.");
        Bench b = Bench.busy();
        for (boolean on : new boolean[] {true, false}) {
            for (int s : new int[] {-1, 2}) {
                b.refused("s " + s, f -> f.power(s, on));
            }
            for (int far : Bench.FAR) {
                b.refused("s " + far, f -> f.power(far, on));
            }
        }
        for (int s = 0; s < 2; s++) {
            int at = s;
            b.refused("up already", f -> f.power(at, true));
        }
        Check.yes("down", b.x.power(1, false));
        b.refused("down already", f -> f.power(1, false));
    }

    private static int[] request() {
        return Wire.request(KEY, 9, 99, 5, -1, Wire.packet(2, 3, 1, 5));
    }

    private static void powerOff() {
        Check.says("one that goes down forgets its sessions and answers");
        Bench b = new Bench(KEY);
        b.x.user(5, 50, 1);
        b.bring(2, 1, request());
        Check.bytes("up", b.view().server(1), 1, 1, 1, 1);
        Check.yes("down", b.x.power(1, false));
        Check.bytes("no session", b.view().server(1), 0, 0, 1, 1);
        Check.yes("up", b.x.power(1, true));
        Check.bytes("no session", b.view().server(1), 1, 0, 1, 1);
        int hash = Wire.hash(Wire.row(4), Wire.four(50), Wire.four(Wire.hash(Wire.four(50), Wire.row(1), Wire.four(0))));
        b.bring(2, 1, Wire.request(KEY, 10, 100, 5, 0, Wire.packet(2, 4, Wire.cat(Wire.row(4), Wire.four(hash)))));
        Check.due("so its TOKEN is that of none", b.latest()[0], 3);
        b.bring(2, 1, request());
        Check.due("nor the same answer: a new session", b.x.server(1, 2), 2);
    }

    private static void powerOnAgain() {
        Check.says("(how many began, and its randoms, are counted on)");
        Bench b = new Bench(KEY);
        b.x.user(5, 50, 1);
        b.bring(2, 1, request());
        b.x.power(1, false);
        b.x.power(1, true);
        b.bring(2, 1, request());
        int[] random = Wire.four(Wire.hash(Wire.four(50), Wire.row(1), Wire.four(1)));
        int[] packet = Wire.packet(1, 4, Wire.cat(Wire.row(4), random));
        Check.bytes("session 1 with random 1", b.latest(), Wire.answer(KEY, 11, 9, 99, 1, packet));
        b.bring(2, 1, request());
        Check.bytes("and this answer is kept", b.latest(), Wire.answer(KEY, 11, 9, 99, 1, packet));
        for (int n = 0; n < 6; n++) {
            b.bring(2, 1, Wire.request(KEY, n, n, 5, -1, Wire.packet(2, 3, 1, 5)));
        }
        b.x.power(1, false);
        b.x.power(1, true);
        b.bring(2, 1, Wire.request(KEY, 5, 5, 5, -1, Wire.packet(2, 3, 1, 5)));
        Check.bytes("when it had four sessions too", b.view().server(1), 1, 1, 9, 9);
        fourAnswersAgain(b);
    }

    /** The latest four are kept, as ever. */
    private static void fourAnswersAgain(Bench b) {
        for (int n = 6; n < 9; n++) {
            b.bring(2, 1, Wire.request(KEY, n, n, 5, -1, Wire.packet(2, 3, 1, 5)));
        }
        for (int n = 5; n < 9; n++) {
            b.bring(2, 1, Wire.request(KEY, n, n, 5, -1, Wire.packet(2, 3, 1, 5)));
        }
        Check.bytes("the latest four answers", b.view().server(1), 1, 4, 12, 12);
    }

    private static void powerOfOneServer() {
        Check.says("Server s comes up or goes down");
        for (int s = 0; s < 2; s++) {
            Bench b = new Bench(KEY);
            b.x.user(5, 50, 1);
            b.bring(2, 1 - s, request());
            b.x.power(s, false);
            Check.due("down", b.x.server(s, 0), 0);
            Check.bytes("the other is as it was", b.view().server(1 - s), 1, 1, 1, 1);
        }
    }
}
