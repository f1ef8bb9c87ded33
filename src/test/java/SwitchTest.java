/**
 * What the switch does with what promise 7 (pass) delivers to it and by promise 11 (tick),
 * looked at by promises 15 (port), 18 (wrong) and 20 (favourite).
 */
public final class SwitchTest {
    private static final int KEY = -77;

    public static void main(String[] args) {
        frames();
        identity();
        working();
        answers();
        wrongAnswers();
        lowestPort();
        visits();
        resends();
        workingTimesOut();
        retries();
        secondServerAnswers();
        heldAndOpen();
        nextIds();
        ticksInOrder();
        Check.end();
    }

    private static void state(Bench b, int p, int... want) {
        for (int what = 0; what < want.length; what++) {
            Check.due("port(" + p + ", " + what + ")", b.x.port(p, what), want[what]);
        }
    }

    private static void frames() {
        Bench b = new Bench(KEY);
        b.bring(0, 1, 9);
        b.bring(0, 1, 1);
        Check.due("no link: not counted", b.x.wrong(0), 0);
        Check.due("and nothing sent", b.x.waiting(), 0);
        b.x.link(1, true);
        b.loseAll();
        int[][] wrongs = {{0}, {3}, {1, 1}, {2, 2}, {0, 2, 0, 3}, {0, 2, 0, 6, 1, 5}, {0, 7, 0, 5, 1, 5},
            Wire.frame(Wire.packet(2, 0, new int[18])), {0, 3, 0, 4, 1}};
        for (int[] frame : wrongs) {
            b.bring(0, 1, frame);
        }
        Check.due("WRONG frames", b.x.wrong(0), wrongs.length);
        int[][] nothing = {{0, 1, 0, 5, 1, 5}, {0, 3, 0, 3}, {0, 4, 0, 3}, {0, 2, 1, 5, 1, 5}};
        for (int[] frame : nothing) {
            b.bring(0, 1, frame);
        }
        Check.due("RIGHT frames that do nothing", b.x.wrong(0), wrongs.length);
        Check.due("nothing sent", b.x.waiting(), 0);
        state(b, 1, 1, 0, 1, 0, 0, -1, 0, -1, -1, 0, 0, 1);
        b.ticks(3);
        b.bring(0, 1, 1);
        Check.bytes("START: begin", b.latest(), 0, 1, 1, 4, 1);
        state(b, 1, 1, 0, 1, 0, 0, -1, 0, -1, -1, 0, 0, 2);
    }

    private static void identity() {
        Bench b = new Bench(KEY);
        b.x.link(0, true);
        b.loseAll();
        b.bring(0, 0, Wire.frame(Wire.packet(2, 0, 3, 4)));
        b.bring(0, 0, Wire.frame(Wire.packet(2, 0, 1)));
        b.bring(0, 0, Wire.frame(Wire.packet(2, 0, 1, 5, 5)));
        state(b, 0, 1, 0, 1, 0, 0, -1, 0, -1, -1);
        b.ticks(2);
        int[] response = Wire.packet(2, 0, 1, 200);
        b.bring(0, 0, Wire.frame(response));
        state(b, 0, 2, 0, 0, 0, 0, 0, 1, 200, -1);
        Check.bytes("the request", b.latest(), Wire.request(KEY, 0, Wire.authenticator(KEY, 0), 200, -1, response));
        Check.due("way", b.x.message(0, 0), 2);
        Check.due("place", b.x.message(0, 1), 0);
        b.bring(0, 0, Wire.frame(response));
        Check.due("once alone", b.x.waiting(), 1);
        b.bring(0, 0, 1);
        state(b, 0, 1, 0, 1, 0, 0, -1, 0, 200, -1, 0, 0, 2);
    }

    /** The datagram of the query of a port that asked by the n-th request. */
    private static int[] answer(int n, int code, int token, int... packet) {
        return Wire.answer(KEY, code, n & 255, Wire.authenticator(KEY, n), token, packet);
    }

    private static void working() {
        Bench b = new Bench(KEY);
        b.query(3, 6);
        b.loseAll();
        b.ticks(2);
        int[] longest = Wire.packet(1, 90, 4, 1, 2, 3, 4, 5, 6, 7, 8, 9, 10, 11, 12, 13, 14, 15, 16);
        b.bring(3, 0, answer(0, 11, 513, longest));
        Check.bytes("the packet goes to the host", b.latest(), Wire.frame(longest));
        Check.due("way", b.x.message(0, 0), 1);
        Check.due("place", b.x.message(0, 1), 3);
        state(b, 3, 2, 0, 1, 0, 0, -1, 0, 6, 513, 0, 0, 91);
        int[] any = Wire.packet(2, 90, 99, 16, 15, 14, 13, 12, 11, 10, 9, 8, 7, 6, 5, 4, 3, 2, 1);
        b.bring(0, 3, Wire.frame(any));
        Check.bytes("any response", b.latest(), Wire.request(KEY, 1, Wire.authenticator(KEY, 1), 6, 513, any));
        state(b, 3, 2, 0, 0, 0, 0, 0, 1, 6, 513);
        b.bring(3, 0, answer(1, 11, -1, 1, 91, 4, 4));
        Check.due("no TOKEN any more", b.x.port(3, 8), -1);
        b.bring(0, 3, Wire.frame(Wire.packet(2, 91, 1, 2)));
        Check.due("a type 1 then is no user", b.x.port(3, 7), 6);
        Check.bytes("and no TOKEN is sent", b.latest(),
            Wire.request(KEY, 2, Wire.authenticator(KEY, 2), 6, -1, Wire.packet(2, 91, 1, 2)));
    }

    private static void answers() {
        Bench b = new Bench(KEY);
        b.query(2, 6);
        b.loseAll();
        b.ticks(1);
        b.bring(3, 0, answer(0, 2, 7, 3, 44, 3));
        Check.bytes("SUCCESS goes to the host", b.latest(), 0, 3, 44, 3);
        state(b, 2, 3, 1, 0, 0, 0, -1, 0, 6, -1, 1, 0, 45);
        b.bring(3, 0, answer(0, 2, 7, 3, 44, 3));
        Check.due("the query is gone", b.x.wrong(0), 1);
        b.x.data(2, 1, 8);
        b.bring(0, 2, 1);
        b.bring(0, 2, Wire.frame(Wire.packet(2, 45, 1, 5)));
        b.bring(3, 0, answer(1, 11, 8, 1, 46, 4, 4));
        state(b, 2, 2, 1, 1, 0, 0, -1, 0, 5, 8, 1, 1, 47);
        b.bring(0, 2, Wire.frame(Wire.packet(2, 46, 4)));
        b.ticks(1);
        b.bring(3, 0, answer(2, 3, -1, 4, 46, 3));
        Check.bytes("FAILURE goes to the host", b.latest(), 0, 4, 46, 3);
        state(b, 2, 4, 0, 0, 0, 0, -1, 0, 5, 8, 1, 1, 47);
        Check.due("closed", b.x.learned(1), -1);
    }

    private static void wrongAnswers() {
        Bench b = new Bench(KEY);
        b.query(2, 6);
        b.loseAll();
        int[] right = answer(0, 11, 9, 1, 1, 4, 4);
        int wrongs = 0;
        for (int i = 0; i < right.length; i++) {
            b.bring(3, 0, Wire.with(right, i, Wire.row(right[i] ^ 1)));
            wrongs++;
            Check.due("altered byte " + i, b.x.wrong(0), wrongs);
        }
        int auth = Wire.authenticator(KEY, 0);
        int[] authAlone = Wire.bare(2, 0, auth, Wire.pieces(Wire.packet(3, 0)), Wire.SEAL);
        int[] sealAlone = Wire.sealed(KEY, authAlone, authAlone.length - 6);
        int[][] rows = {
            answer(0, 11, 9, 3, 1, 3), answer(0, 11, 9, 4, 1, 3), answer(0, 11, 9, 2, 1, 4, 4),
            answer(0, 2, 9, 4, 1, 3), answer(0, 2, 9, 1, 1, 4, 4), answer(0, 3, 9, 3, 1, 3), answer(0, 1, 9, 1, 1, 4, 4),
            answer(0, 0, 9, 3, 1, 3), answer(0, 4, 9, 4, 1, 3), answer(1, 2, 9, 3, 1, 3),
            Wire.answer(KEY, 2, 0, auth + 1, -1, Wire.packet(3, 0)), Wire.answer(KEY + 1, 2, 0, auth, -1, Wire.packet(3, 0)),
            Wire.authenticated(KEY, authAlone), sealAlone, {2}, {2, 0, 3}};
        for (int[] row : rows) {
            b.bring(3, 0, row);
            wrongs++;
            Check.due("not accepted " + wrongs, b.x.wrong(0), wrongs);
        }
        b.bring(3, 1, right);
        Check.due("from the other server", b.x.wrong(0), wrongs + 1);
        Check.due("the favourite stays", b.x.favourite(), 0);
        Check.due("nothing is sent", b.x.waiting(), 0);
        state(b, 2, 2, 0, 0, 0, 0, 0, 1, 6, -1, 0, 0, 1);
        int[] mixed = Wire.bare(2, 0, auth, Wire.SEAL, Wire.row(79, 4, 3, 0), Wire.name(3), Wire.row(79, 3, 3));
        b.bring(3, 0, Wire.authenticated(KEY, Wire.sealed(KEY, mixed, 7)));
        Check.due("another order, with a NAME, is RIGHT", b.x.port(2, 0), 3);
    }

    /** Request n has the ID of request n - 256: of two ports that await it the lowest is looked at alone. */
    private static void lowestPort() {
        Bench b = new Bench(KEY);
        b.query(3, 1);
        b.query(1, 2);
        int[] answerOfFirst = answer(0, 2, -1, 3, 0, 3);
        for (int n = 2; n < 256; n++) {
            b.x.link(1, false);
            b.query(1, 2);
        }
        b.x.link(1, false);
        b.loseAll();
        b.query(1, 2);
        Check.due("ID 0 again", b.latest()[1], 0);
        b.bring(3, 0, answerOfFirst);
        Check.due("not accepted, as port 1 is looked at alone", b.x.wrong(0), 1);
        state(b, 3, 2, 0, 0, 0, 0, 0, 1);
        b.bring(3, 0, answer(256, 2, -1, 3, 0, 3));
        Check.due("port 1 is open", b.x.port(1, 0), 3);
        b.bring(3, 0, answerOfFirst);
        Check.due("then port 3", b.x.port(3, 0), 3);
    }

    private static void visits() {
        Bench b = new Bench(KEY);
        b.open(1, 4);
        b.x.data(1, 1, 8);
        b.x.data(1, 1, 8);
        state(b, 1, 3, 1, 0, 0, 0, -1, 0, 4, 0, 1, 2);
        b.x.start(1, true);
        b.passAll();
        state(b, 1, 3, 1, 0, 0, 0, -1, 0, 4, 1, 1, 2);
        Check.due("it was not closed", b.x.learned(1), 1);
        b.x.start(1, false);
        b.x.pass(0, 0);
        state(b, 1, 1, 0, 1, 0, 0, -1, 0, 4, -1, 1, 2);
        Check.due("LOGOFF closes", b.x.learned(1), -1);
        b.passAll();
        state(b, 1, 3, 1, 0, 0, 0, -1, 0, 4, 2, 2, 0);
    }

    private static void resends() {
        Bench b = new Bench(KEY);
        b.x.link(0, true);
        for (int n = 0; n < 3; n++) {
            Check.due("sent " + n + " times again", b.x.port(0, 3), n);
            b.ticks(4);
            Check.due("not yet", b.x.waiting(), n + 1);
            Check.due("clock", b.x.port(0, 4), 4);
            Check.due("now", b.x.tick(), n + 2);
            Check.due("clock", b.x.port(0, 4), 0);
        }
        for (int k = 0; k < 3; k++) {
            Check.bytes("the same thrice", b.bytes(k), 0, 1, 0, 4, 1);
        }
        Check.bytes("then the next", b.bytes(3), 0, 1, 1, 4, 1);
        state(b, 0, 1, 0, 1, 0, 0);
    }

    private static void workingTimesOut() {
        Bench b = new Bench(KEY);
        b.open(0, 3);
        b.x.data(0, 2, 8);
        b.x.start(0, true);
        b.ticks(0);
        for (int n = 0; n < 5; n++) {
            b.x.pass(0, 0);
        }
        state(b, 0, 2, 1, 1, 0, 0, -1, 0, 3, 1);
        b.ticks(14);
        Check.due("still authorised", b.x.port(0, 1), 1);
        int id = b.x.port(0, 11);
        b.x.tick();
        state(b, 0, 1, 0, 1, 0, 0, -1, 0, 3, -1);
        Check.due("closed", b.x.learned(2), -1);
        Check.bytes("begins", b.latest(), 0, 1, id, 4, 1);
        b.open(1, 4);
        b.x.start(1, true);
        b.x.pass(b.x.waiting() - 1, 0);
        b.ticks(15);
        Check.due("in ASKING it is not closed", b.x.port(1, 1), 1);
    }

    private static void retries() {
        Bench b = new Bench(KEY);
        b.query(2, 6);
        int[] first = b.latest();
        int[] response = Wire.packet(2, 0, 1, 6);
        b.ticks(3);
        Check.due("not yet", b.x.waiting(), 1);
        b.x.tick();
        Check.bytes("the same once more", b.bytes(1), first);
        Check.due("to the same", b.x.message(1, 1), 0);
        state(b, 2, 2, 0, 0, 0, 0, 0, 2);
        b.ticks(4);
        Check.bytes("a new request", b.bytes(2), Wire.request(KEY, 1, Wire.authenticator(KEY, 1), 6, -1, response));
        Check.due("to the other", b.x.message(2, 1), 1);
        state(b, 2, 2, 0, 0, 0, 0, 1, 1);
        b.ticks(4);
        Check.bytes("once more", b.bytes(3), b.bytes(2));
        state(b, 2, 2, 0, 0, 0, 0, 1, 2);
        b.bring(3, 0, answer(0, 2, -1, 3, 0, 3));
        Check.due("the first server's answer is too late", b.x.wrong(0), 1);
        b.ticks(3);
        Check.due("not yet", b.x.waiting(), 4);
        b.x.tick();
        Check.bytes("a FAILURE with the id of LAST", b.latest(), 0, 4, 0, 3);
        Check.due("to the host", b.x.message(4, 0), 1);
        state(b, 2, 4, 0, 0, 0, 0, -1, 0, 6, -1, 0, 0, 1);
        Check.due("the favourite stays", b.x.favourite(), 0);
    }

    private static void secondServerAnswers() {
        Bench b = new Bench(KEY);
        b.query(2, 6);
        b.ticks(4);
        b.bring(3, 0, answer(0, 11, 40, 1, 1, 4, 4));
        Check.due("the first one after its second try", b.x.port(2, 8), 40);
        b.bring(0, 2, Wire.frame(Wire.packet(2, 1, 4)));
        b.ticks(8);
        Check.bytes("the other is asked with the TOKEN", b.latest(),
            Wire.request(KEY, 2, Wire.authenticator(KEY, 2), 6, 40, Wire.packet(2, 1, 4)));
        b.bring(3, 1, answer(2, 11, 50, 1, 2, 4, 4));
        Check.due("it is the favourite", b.x.favourite(), 1);
        b.bring(0, 2, Wire.frame(Wire.packet(2, 2, 4)));
        state(b, 2, 2, 0, 0, 0, 0, 1, 1, 6, 50);
        b.ticks(8);
        Check.due("the other one is 0 then", b.x.port(2, 5), 0);
        b.ticks(8);
        Check.due("held", b.x.port(2, 0), 4);
        b.query(0, 1);
        Check.due("other ports ask it too", b.x.port(0, 5), 1);
    }

    private static void heldAndOpen() {
        Bench b = new Bench(KEY);
        b.query(2, 6);
        b.bring(3, 0, answer(0, 3, -1, 4, 0, 3));
        int sent = b.x.waiting();
        b.bring(0, 2, 1);
        b.bring(0, 2, 9, 9);
        Check.due("HELD: nothing is sent", b.x.waiting(), sent);
        Check.due("HELD: nothing is counted", b.x.wrong(0), 0);
        b.ticks(5);
        state(b, 2, 4, 0, 0, 0, 5);
        b.x.tick();
        state(b, 2, 1, 0, 1, 0, 0, -1, 0, 6, -1, 0, 0, 2);
        b.loseAll();
        b.open(1, 4);
        b.loseAll();
        b.x.link(2, false);
        b.ticks(29);
        state(b, 1, 3, 1, 0, 0, 29);
        Check.due("nothing is sent", b.x.waiting(), 0);
        Check.due("open for 30 ticks", b.x.tick(), 1);
        state(b, 1, 1, 1, 1, 0, 0, -1, 0, 4, -1, 1, 0);
    }

    private static void nextIds() {
        Bench b = new Bench(KEY);
        b.query(0, 1);
        b.bring(3, 0, answer(0, 11, 1, 1, 255, 4, 4));
        Check.due("id 255 and 1", b.x.port(0, 11), 0);
        b.bring(0, 0, 1);
        Check.bytes("is 0", b.latest(), 0, 1, 0, 4, 1);
        b.bring(0, 0, Wire.frame(Wire.packet(2, 0, 1, 1)));
        b.bring(3, 0, answer(1, 11, 1, 1, 40, 4, 4));
        b.ticks(5);
        Check.bytes("sent again", b.latest(), 0, 1, 40, 4, 4);
        Check.due("one more than that", b.x.port(0, 11), 41);
        Check.due("other ports have ids of their own", b.x.port(1, 11), 0);
    }

    private static void ticksInOrder() {
        Bench b = new Bench(KEY);
        for (int p = 3; p >= 0; p--) {
            b.x.link(p, true);
        }
        b.loseAll();
        b.ticks(4);
        Check.due("four at once", b.x.tick(), 4);
        for (int p = 0; p < 4; p++) {
            Check.due("in order", b.x.message(p, 1), p);
        }
    }
}
