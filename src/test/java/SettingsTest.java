/** Promises 2 (user), 3 (host), 4 (start), 5 (link) and 6 (power), with 15 to 17 to look at them. */
public final class SettingsTest {
    public static void main(String[] args) {
        users();
        hosts();
        starts();
        links();
        powers();
        Check.end();
    }

    private static void users() {
        Bench b = new Bench(1);
        int[] wrongUsers = {-1, 8, Integer.MIN_VALUE, Integer.MAX_VALUE};
        for (int u : wrongUsers) {
            Check.no("user " + u, b.x.user(u, 0, 1));
        }
        for (int m : new int[] {-1, 0, 4, 5, Integer.MIN_VALUE, Integer.MAX_VALUE}) {
            Check.no("methods " + m, b.x.user(0, 0, m));
        }
        for (int u = 0; u < 8; u++) {
            for (int m = 1; m <= 3; m++) {
                Check.yes("user " + u + " methods " + m, b.x.user(u, u, m));
            }
        }
        newKeyCounts();
        refusedUserIsAsBefore();
    }

    private static void newKeyCounts() {
        Bench b = new Bench(1);
        b.x.user(2, 5, 1);
        b.x.host(0, 2, 6, 1);
        b.x.link(0, true);
        for (int n = 0; n < 5; n++) {
            b.x.pass(0, 0);
        }
        b.x.user(2, 6, 1);
        b.passAll();
        Check.due("the key that the user has now", b.x.port(0, 0), 3);
    }

    private static void refusedUserIsAsBefore() {
        Bench b = new Bench(1);
        b.x.user(2, 5, 1);
        b.x.user(2, 6, 4);
        b.x.host(0, 2, 5, 1);
        b.x.link(0, true);
        b.passAll();
        Check.due("a refused user stays as it was", b.x.port(0, 0), 3);
    }

    private static void hosts() {
        Bench b = new Bench(1);
        for (int h : new int[] {-1, 4, Integer.MIN_VALUE, Integer.MAX_VALUE}) {
            Check.no("host " + h, b.x.host(h, 0, 0, 1));
        }
        for (int u : new int[] {-2, 8, Integer.MIN_VALUE, Integer.MAX_VALUE}) {
            Check.no("host of user " + u, b.x.host(0, u, 0, 1));
        }
        for (int m : new int[] {-1, 4, Integer.MIN_VALUE, Integer.MAX_VALUE}) {
            Check.no("host with methods " + m, b.x.host(0, 0, 0, m));
        }
        Check.due("a refused host has no user", b.x.station(0, 3), -1);
        for (int m = 0; m <= 3; m++) {
            Check.yes("host with methods " + m, b.x.host(3, 7, 0, m));
        }
        Check.due("its user", b.x.station(3, 3), 7);
        Check.yes("a host may have no user", b.x.host(3, -1, 0, 0));
        Check.due("no user", b.x.station(3, 3), -1);
        Check.no("a host without user can't start", b.x.start(3, true));
        forgotten(false);
        forgotten(true);
    }

    /** A host with all that a host may have forgets it, by host or by start. */
    private static void forgotten(boolean byStart) {
        Bench b = new Bench(1);
        b.x.user(0, 9, 2);
        b.x.host(1, 0, 9, 2);
        b.x.link(1, true);
        b.passAll();
        Check.due("result", b.x.station(1, 0), 1);
        Check.due("proof", b.x.station(1, 1), 1);
        Check.due("id of the latest", b.x.station(1, 2), 2);
        Check.due("randoms", b.x.station(1, 4), 1);
        int theirs = Wire.hash(Wire.four(9), Wire.row(0), Wire.four(0));
        int ours = Wire.hash(Wire.four(9), Wire.row(1), Wire.four(0));
        int[] proof = Wire.four(Wire.mac(9, Wire.row(3), Wire.four(ours), Wire.four(theirs)));
        int[] request = Wire.frame(Wire.packet(1, 77, Wire.cat(Wire.row(51, 3), proof)));
        b.bring(1, 1, request);
        Check.due("THEIRS is there", b.x.waiting(), 1);
        b.loseAll();
        if (byStart) {
            b.x.start(1, true);
            b.loseAll();
        } else {
            b.x.host(1, 0, 9, 2);
        }
        Check.due("no result", b.x.station(1, 0), 0);
        Check.due("no proof", b.x.station(1, 1), 0);
        Check.due("no latest", b.x.station(1, 2), -1);
        Check.due("randoms are counted on", b.x.station(1, 4), 1);
        b.bring(1, 1, request);
        Check.due("THEIRS is gone", b.x.waiting(), 0);
    }

    private static void starts() {
        Bench b = new Bench(1);
        for (int h : new int[] {-1, 4, Integer.MIN_VALUE, Integer.MAX_VALUE}) {
            Check.no("start " + h, b.x.start(h, true));
        }
        Check.no("start without user", b.x.start(2, false));
        b.x.host(2, 0, 0, 0);
        Check.yes("start", b.x.start(2, true));
        Check.yes("logoff", b.x.start(2, false));
        Check.due("two wait", b.x.waiting(), 2);
        Check.bytes("START", b.bytes(0), 1);
        Check.bytes("LOGOFF", b.bytes(1), 2);
        Check.due("its way", b.x.message(1, 0), 0);
        Check.due("its place", b.x.message(1, 1), 2);
    }

    private static void links() {
        Bench b = new Bench(1);
        for (int p : new int[] {-1, 4, Integer.MIN_VALUE, Integer.MAX_VALUE}) {
            Check.no("link " + p, b.x.link(p, true));
            Check.no("no link " + p, b.x.link(p, false));
        }
        Check.no("is off already", b.x.link(3, false));
        Check.yes("on", b.x.link(3, true));
        Check.no("is on already", b.x.link(3, true));
        Check.bytes("the first request", b.latest(), 0, 1, 0, 4, 1);
        Check.due("state ASKING", b.x.port(3, 0), 1);
        b.ticks(3);
        Check.yes("off", b.x.link(3, false));
        Check.due("state OFF", b.x.port(3, 0), 0);
        Check.due("not awaited", b.x.port(3, 2), 0);
        Check.due("its clock stays", b.x.port(3, 4), 3);
        Check.due("its next id stays", b.x.port(3, 11), 1);
        b.ticks(9);
        Check.due("a port without link has no ticks", b.x.port(3, 4), 3);
        Check.yes("on again", b.x.link(3, true));
        Check.bytes("the second request", b.latest(), 0, 1, 1, 4, 1);
        Check.due("its clock", b.x.port(3, 4), 0);
        unplugged();
    }

    private static void unplugged() {
        Bench b = new Bench(1);
        b.open(0, 2);
        b.x.data(0, 4, 5);
        b.x.link(0, false);
        Check.due("not authorised", b.x.port(0, 1), 0);
        Check.due("forgotten by the bridge", b.x.learned(4), -1);
        Check.due("visits stay", b.x.port(0, 9), 1);
        Check.due("traffic stays", b.x.port(0, 10), 1);
        Check.due("the user stays", b.x.port(0, 7), 2);
        Check.due("the token stays", b.x.port(0, 8), 0);
        b.query(1, 3);
        Check.due("a query", b.x.port(1, 5), 0);
        b.x.link(1, false);
        Check.due("no query", b.x.port(1, 5), -1);
        Check.due("no tries", b.x.port(1, 6), 0);
        Check.due("the user stays", b.x.port(1, 7), 3);
    }

    private static void powers() {
        Bench b = new Bench(1);
        for (int s : new int[] {-1, 2, Integer.MIN_VALUE, Integer.MAX_VALUE}) {
            Check.no("power " + s, b.x.power(s, true));
            Check.no("power off " + s, b.x.power(s, false));
        }
        Check.no("is up already", b.x.power(1, true));
        b.x.user(5, 50, 1);
        int[] first = Wire.request(1, 9, 99, 5, -1, Wire.packet(2, 3, 1, 5));
        b.bring(2, 1, first);
        Check.due("a session", b.x.server(1, 1), 1);
        Check.yes("off", b.x.power(1, false));
        Check.no("is off already", b.x.power(1, false));
        Check.due("is down", b.x.server(1, 0), 0);
        Check.due("no session", b.x.server(1, 1), 0);
        Check.due("began is counted on", b.x.server(1, 2), 1);
        Check.due("randoms are counted on", b.x.server(1, 3), 1);
        b.loseAll();
        b.bring(2, 1, first);
        b.bring(2, 1, 1, 2, 3);
        Check.due("lost where it is down", b.x.waiting(), 0);
        Check.due("nor counted", b.x.wrong(2), 0);
        Check.yes("on", b.x.power(1, true));
        b.bring(2, 1, first);
        Check.due("the answer was forgotten: a new session", b.x.server(1, 2), 2);
        int[] random = Wire.four(Wire.hash(Wire.four(50), Wire.row(1), Wire.four(1)));
        int[] request = Wire.packet(1, 4, Wire.cat(Wire.row(4), random));
        Check.bytes("its answer", b.latest(), Wire.answer(1, 11, 9, 99, 1, request));
    }
}
