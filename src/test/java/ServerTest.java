/** What a server does with what promise 7 (pass) delivers to it, looked at by promises 17 (server) and 18 (wrong). */
public final class ServerTest {
    private static final int KEY = 0x0BADF00D;
    private static int authenticators = 100;

    public static void main(String[] args) {
        vectors();
        notAccepted();
        otherForms();
        challenge();
        mutual();
        wrongProofs();
        changes();
        rejects();
        fourSessions();
        sameAgain();
        bothServers();
        Check.end();
    }

    /** Published values of the hash that HASH is made of: the tests' own bytes can be trusted. */
    private static void vectors() {
        Check.due("of nothing", Wire.fnv(), 0x811C9DC5);
        Check.due("of a", Wire.fnv('a'), 0xE40C292C);
        Check.due("of foobar", Wire.fnv('f', 'o', 'o', 'b', 'a', 'r'), 0xBF9CF968);
        Check.due("HASH of a", Wire.hash(Wire.row('a')), 0xE40C292C ^ (0xE40C292C >>> 15));
    }

    private static Bench bench() {
        Bench b = new Bench(KEY);
        b.x.user(1, 11, 1);
        b.x.user(2, 22, 2);
        b.x.user(3, 33, 3);
        return b;
    }

    /** Brings a packet in a new request and answers the datagram that comes back. */
    private static int[] ask(Bench b, int server, int token, int[] packet) {
        authenticators++;
        b.bring(2, server, Wire.request(KEY, authenticators & 255, authenticators, 1, token, packet));
        return b.latest();
    }

    private static int[] due(int code, int token, int[] packet) {
        return Wire.answer(KEY, code, authenticators & 255, authenticators, token, packet);
    }

    private static int random(int key, int server, int n) {
        return Wire.hash(Wire.four(key), Wire.row(server), Wire.four(n));
    }

    private static int[] typed(int code, int id, int[]... typeAndData) {
        return Wire.packet(code, id, Wire.cat(typeAndData));
    }

    private static void notAccepted() {
        Bench b = bench();
        int[] packet = Wire.packet(2, 0, 1, 1);
        int[] right = Wire.request(KEY, 1, 2, 1, -1, packet);
        int[] p = Wire.pieces(packet);
        int[] s = Wire.SEAL;
        int[] n = Wire.name(1);
        int[] t = Wire.token(5);
        int[][] bare = {
            Wire.bare(1, 1, 2, p, s), Wire.bare(1, 1, 2, n, n, p, s), Wire.bare(1, 1, 2, n, t, t, p, s),
            Wire.bare(1, 1, 2, n, s), Wire.bare(2, 1, 2, n, p, s), Wire.bare(11, 1, 2, n, p, s),
            Wire.bare(0, 1, 2, n, p, s), Wire.bare(1, 1, 2, n, Wire.row(2, 3, 0), p, s),
            Wire.bare(1, 1, 2, Wire.row(1, 4, 0, 0), p, s), Wire.bare(1, 1, 2, Wire.row(1, 2), p, s),
            Wire.bare(1, 1, 2, n, Wire.row(24, 3, 0), p, s), Wire.bare(1, 1, 2, n, Wire.row(24, 5, 0, 0, 0), p, s),
            Wire.bare(1, 1, 2, n, Wire.row(79, 2), p, s), Wire.bare(1, 1, 2, n, p, p, s),
            Wire.bare(1, 1, 2, n, Wire.pieces(Wire.packet(2, 0)), s),
            Wire.bare(1, 1, 2, n, Wire.pieces(Wire.row(2, 0, 6, 1, 1)), s),
            Wire.bare(1, 1, 2, n, Wire.pieces(Wire.row(5, 0, 5, 1, 1)), s),
            Wire.bare(1, 1, 2, n, Wire.pieces(Wire.packet(2, 0, new int[18])), s),
            Wire.bare(1, 1, 2, n, Wire.row(79, 11, 2, 0, 9, 1, 1, 0, 0, 0, 0), s)};
        int wrongs = 0;
        for (int[] datagram : bare) {
            b.bring(2, 1, Wire.sealed(KEY, datagram, datagram.length - 6));
            wrongs++;
            Check.due("not accepted " + wrongs, b.x.wrong(2), wrongs);
        }
        int[][] rows = {
            {1}, Wire.part(right, 1), Wire.cat(right, Wire.row(0)), Wire.with(right, 2, Wire.row(right.length - 1)),
            Wire.sealed(KEY, Wire.with(right, 2, Wire.row(right.length - 1)), right.length - 6),
            Wire.sealed(KEY, Wire.with(right, 2, Wire.row(right.length + 1)), right.length - 6),
            java.util.Arrays.copyOf(right, right.length - 1), Wire.request(KEY + 1, 1, 2, 1, -1, packet),
            Wire.bare(1, 1, 2, n, p), Wire.bare(1, 1, 2), Wire.cat(Wire.row(1, 1, 8), Wire.four(2), Wire.row(80)),
            behindSeal(n, p, 79, 4, 0), behindSeal(n, p, 1), behindSeal(n, p, 1, 0, 0), behindSeal(n, p, 2, 3, 0),
            behindSeal(n, p, Wire.SEAL), twoSeals(n, p)};
        for (int[] row : rows) {
            b.bring(2, 1, row);
            wrongs++;
            Check.due("not accepted " + wrongs, b.x.wrong(2), wrongs);
        }
        for (int i = 0; i < right.length; i++) {
            b.bring(2, 1, Wire.with(right, i, Wire.row(right[i] ^ 4)));
            wrongs++;
            Check.due("altered byte " + i, b.x.wrong(2), wrongs);
        }
        Check.due("nothing is sent", b.x.waiting(), 0);
        Check.due("no session", b.x.server(1, 2), 0);
        b.bring(2, 1, right);
        Check.due("the right one", b.x.server(1, 2), 1);
        Check.due("is not counted", b.x.wrong(2), wrongs);
        Check.due("none at the switch", b.x.wrong(0) + b.x.wrong(1), 0);
    }

    private static int[] behindSeal(int[] name, int[] pieces, int... more) {
        int[] row = Wire.bare(1, 1, 2, name, pieces, Wire.SEAL, more);
        return Wire.sealed(KEY, row, row.length - more.length - 6);
    }

    private static int[] twoSeals(int[] name, int[] pieces) {
        int[] row = Wire.bare(1, 1, 2, name, pieces, Wire.SEAL, Wire.SEAL);
        return Wire.sealed(KEY, row, row.length - 6);
    }

    /** Attributes in any order and pieces of any size are RIGHT. */
    private static void otherForms() {
        Bench b = bench();
        int[] row = Wire.bare(1, 200, -5, Wire.SEAL, Wire.row(79, 3, 2), Wire.token(70), Wire.row(79, 5, 9, 5, 1),
            Wire.name(255), Wire.row(79, 3, 1));
        b.bring(2, 0, Wire.sealed(KEY, row, 7));
        Check.due("accepted", b.x.server(0, 2), 1);
        int[] request = typed(1, 10, Wire.row(4), Wire.four(random(11, 0, 0)));
        Check.bytes("its answer", b.latest(), Wire.answer(KEY, 11, 200, -5, 0, request));
    }

    private static void challenge() {
        Bench b = bench();
        int random = random(11, 0, 0);
        int[] request = typed(1, 0, Wire.row(4), Wire.four(random));
        Check.bytes("id 255 and 1", ask(b, 0, -1, Wire.packet(2, 255, 1, 1)), due(11, 0, request));
        int hash = Wire.hash(Wire.row(0), Wire.four(11), Wire.four(random));
        int[] right = typed(2, 0, Wire.row(4), Wire.four(hash));
        Check.bytes("ACCEPT", ask(b, 0, 0, right), due(2, -1, Wire.packet(3, 0)));
        Check.due("the session is gone", b.x.server(0, 1), 0);
        Check.bytes("once alone", ask(b, 0, 0, right), due(3, -1, Wire.packet(4, 0)));
        ask(b, 0, -1, Wire.packet(2, 255, 1, 1));
        Check.bytes("another random now", ask(b, 0, 1, right), due(3, -1, Wire.packet(4, 0)));
        Check.due("two randoms", b.x.server(0, 3), 2);
        Check.due("two began", b.x.server(0, 2), 2);
    }

    private static int[] proof(int step, int key, int first, int second) {
        return Wire.cat(Wire.row(step), Wire.four(Wire.mac(key, Wire.row(step), Wire.four(first), Wire.four(second))));
    }

    private static int[] firstProof(int id, int key, int random, int theirs) {
        int mac = Wire.mac(key, Wire.row(2), Wire.four(random), Wire.four(theirs));
        return typed(2, id, Wire.row(51, 2), Wire.four(theirs), Wire.four(mac));
    }

    private static void mutual() {
        Bench b = bench();
        int random = random(22, 1, 0);
        int[] begin = typed(1, 8, Wire.row(51, 1), Wire.four(random));
        Check.bytes("the random", ask(b, 1, -1, Wire.packet(2, 7, 1, 2)), due(11, 0, begin));
        int[] request = typed(1, 9, Wire.row(51), proof(3, 22, 0xABCDEF01, random));
        Check.bytes("the proof", ask(b, 1, 0, firstProof(8, 22, random, 0xABCDEF01)), due(11, 0, request));
        int[] last = typed(2, 9, Wire.row(51), proof(4, 22, random, 0xABCDEF01));
        Check.bytes("ACCEPT", ask(b, 1, 0, last), due(2, -1, Wire.packet(3, 9)));
        Check.due("gone", b.x.server(1, 1), 0);
        int second = random(22, 1, 1);
        ask(b, 1, -1, Wire.packet(2, 7, 1, 2));
        int[] early = typed(2, 8, Wire.row(51), proof(4, 22, second, 0));
        Check.bytes("the last one too early", ask(b, 1, 1, early), due(3, -1, Wire.packet(4, 8)));
        ask(b, 1, -1, Wire.packet(2, 7, 1, 2));
        int third = random(22, 1, 2);
        int[] again = typed(1, 9, Wire.row(51), proof(3, 22, 5, third));
        Check.bytes("the proof of a new session", ask(b, 1, 2, firstProof(8, 22, third, 5)), due(11, 2, again));
        Check.bytes("the first one twice", ask(b, 1, 2, firstProof(9, 22, third, 5)), due(3, -1, Wire.packet(4, 9)));
    }

    private static void wrongProofs() {
        int random = random(22, 0, 0);
        int[] right = Wire.part(firstProof(8, 22, random, 5), 3);
        int[][] firsts = {
            Wire.with(right, 1, Wire.row(4)), Wire.with(right, 5, Wire.row(right[5] ^ 1)), Wire.with(right, 0, Wire.row(4)),
            Wire.with(right, 9, Wire.row(right[9] ^ 1)), Wire.cat(right, Wire.row(0)), Wire.row(51), Wire.row(51, 2)};
        for (int[] content : firsts) {
            Bench b = bench();
            ask(b, 0, -1, Wire.packet(2, 7, 1, 2));
            Check.bytes("a wrong first proof", ask(b, 0, 0, Wire.packet(2, 8, content)), due(3, -1, Wire.packet(4, 8)));
        }
        int[] last = Wire.cat(Wire.row(51), proof(4, 22, random, 5));
        int[][] lasts = {
            Wire.with(last, 1, Wire.row(2)), Wire.with(last, 5, Wire.row(last[5] ^ 1)), Wire.cat(last, Wire.row(0)),
            Wire.with(last, 0, Wire.row(4)), Wire.row(51), Wire.row(51, 4)};
        for (int[] content : lasts) {
            Bench b = bench();
            ask(b, 0, -1, Wire.packet(2, 7, 1, 2));
            ask(b, 0, 0, Wire.packet(2, 8, right));
            Check.bytes("a wrong last proof", ask(b, 0, 0, Wire.packet(2, 9, content)), due(3, -1, Wire.packet(4, 9)));
            Check.due("the session is gone", b.x.server(0, 1), 0);
        }
    }

    /** A REFUSAL makes the other method begin, if it may. */
    private static void changes() {
        Bench b = bench();
        ask(b, 0, -1, Wire.packet(2, 0, 1, 3));
        int[] begin = typed(1, 2, Wire.row(51, 1), Wire.four(random(33, 0, 1)));
        Check.bytes("MUTUAL begins", ask(b, 0, 0, Wire.packet(2, 1, 3, 51)), due(11, 0, begin));
        Check.due("the same session", b.x.server(0, 1), 1);
        Check.due("began once", b.x.server(0, 2), 1);
        Check.bytes("CHALLENGE began before", ask(b, 0, 0, Wire.packet(2, 2, 3, 4)), due(3, -1, Wire.packet(4, 2)));
        ask(b, 0, -1, Wire.packet(2, 0, 1, 1));
        Check.bytes("not the user's", ask(b, 0, 1, Wire.packet(2, 1, 3, 51)), due(3, -1, Wire.packet(4, 1)));
        ask(b, 0, -1, Wire.packet(2, 0, 1, 1));
        b.x.user(1, 11, 2);
        begin = typed(1, 2, Wire.row(51, 1), Wire.four(random(11, 0, 4)));
        Check.bytes("the user's now", ask(b, 0, 2, Wire.packet(2, 1, 3, 51)), due(11, 2, begin));
        int[] first = firstProof(2, 11, random(11, 0, 4), 6);
        int[] request = typed(1, 3, Wire.row(51), proof(3, 11, 6, random(11, 0, 4)));
        Check.bytes("and goes on", ask(b, 0, 2, first), due(11, 2, request));
        b.x.user(2, 22, 3);
        ask(b, 0, -1, Wire.packet(2, 0, 1, 2));
        b.x.user(2, 22, 2);
        int hash = Wire.hash(Wire.row(1), Wire.four(22), Wire.four(random(22, 0, 5)));
        int[] right = typed(2, 1, Wire.row(4), Wire.four(hash));
        Check.bytes("a method that began goes on", ask(b, 0, 3, right), due(2, -1, Wire.packet(3, 1)));
    }

    private static void rejects() {
        int[][] packets = {
            Wire.packet(1, 1, 4), Wire.packet(3, 1), Wire.packet(4, 1), Wire.packet(2, 1, 1), Wire.packet(2, 1, 1, 0),
            Wire.packet(2, 1, 1, 8), Wire.packet(2, 1, 1, 255), Wire.packet(2, 1, 1, 1, 1), Wire.packet(2, 1, 3),
            Wire.packet(2, 1, 3, 4), Wire.packet(2, 1, 3, 0), Wire.packet(2, 1, 3, 51, 51), Wire.packet(2, 1, 2, 51),
            Wire.packet(2, 1, 4, 0, 0, 0, 0), Wire.packet(2, 1, 51, 2, 0, 0, 0, 0, 0, 0, 0, 0),
            Wire.packet(2, 1, 0, 1), challengeResponse(2, random(33, 0, 0)), challengeResponse(0, random(33, 0, 0)),
            Wire.cat(Wire.row(2, 1, 9), Wire.part(challengeResponse(1, random(33, 0, 0)), 3), Wire.row(0))};
        for (int[] packet : packets) {
            Bench b = bench();
            ask(b, 0, -1, Wire.packet(2, 0, 1, 3));
            String what = java.util.Arrays.toString(packet);
            Check.bytes("REJECT of " + what, ask(b, 0, 0, packet), due(3, -1, Wire.packet(4, packet[1])));
            Check.due("the session is gone by " + what, b.x.server(0, 1), 0);
        }
        Bench b = bench();
        ask(b, 0, -1, Wire.packet(2, 0, 1, 3));
        int[] right = challengeResponse(1, random(33, 0, 0));
        Check.bytes("without TOKEN", ask(b, 0, -1, right), due(3, -1, Wire.packet(4, 1)));
        Check.bytes("another TOKEN", ask(b, 0, 1, right), due(3, -1, Wire.packet(4, 1)));
        Check.bytes("another TOKEN", ask(b, 0, 256, right), due(3, -1, Wire.packet(4, 1)));
        Check.due("the session stays", b.x.server(0, 1), 1);
        Check.due("none of these is wrong", b.x.wrong(2), 0);
        Check.bytes("its own", ask(b, 0, 0, right), due(2, -1, Wire.packet(3, 1)));
    }

    private static int[] challengeResponse(int id, int random) {
        return typed(2, id, Wire.row(4), Wire.four(Wire.hash(Wire.row(id), Wire.four(33), Wire.four(random))));
    }

    private static void fourSessions() {
        Bench b = bench();
        for (int n = 0; n < 4; n++) {
            ask(b, 0, n - 1, Wire.packet(2, 0, 1, 3));
            Check.due("a session more, the one of the TOKEN stays", b.x.server(0, 1), n + 1);
        }
        ask(b, 0, 1, Wire.packet(2, 9, 1, 0));
        Check.due("one in the middle is gone", b.x.server(0, 1), 3);
        for (int n = 4; n < 6; n++) {
            ask(b, 0, -1, Wire.packet(2, 0, 1, 3));
            Check.due("at most four", b.x.server(0, 1), 4);
        }
        Check.due("six began", b.x.server(0, 2), 6);
        int[] gone = challengeResponse(1, random(33, 0, 0));
        Check.bytes("the oldest is gone", ask(b, 0, 0, gone), due(3, -1, Wire.packet(4, 1)));
        for (int n = 2; n < 6; n++) {
            int[] right = challengeResponse(1, random(33, 0, n));
            Check.bytes("session " + n + " is there", ask(b, 0, n, right), due(2, -1, Wire.packet(3, 1)));
        }
        Check.due("all are gone", b.x.server(0, 1), 0);
    }

    private static void sameAgain() {
        Bench b = bench();
        int[] packet = Wire.packet(2, 0, 1, 3);
        int[][] requests = new int[6][];
        int[][] answers = new int[6][];
        for (int n = 0; n < 6; n++) {
            requests[n] = Wire.request(KEY, n < 2 ? 7 : n, n < 2 ? n : 50, 1, -1, packet);
        }
        for (int n = 0; n < 4; n++) {
            b.bring(2, 0, requests[n]);
            answers[n] = b.latest();
        }
        Check.due("ID alone or AUTHENTICATOR alone is another", b.x.server(0, 2), 4);
        for (int n = 0; n < 4; n++) {
            b.bring(2, 0, requests[n]);
            Check.bytes("the same answer", b.latest(), answers[n]);
        }
        Check.due("no session more", b.x.server(0, 2), 4);
        b.bring(2, 0, Wire.request(KEY, 7, 0, 2, 9, Wire.packet(3, 3)));
        Check.bytes("whatever else it brings", b.latest(), answers[0]);
        b.bring(2, 0, requests[4]);
        b.loseAll();
        b.bring(2, 0, requests[1]);
        Check.bytes("the second is kept", b.latest(), answers[1]);
        Check.due("five began", b.x.server(0, 2), 5);
        b.bring(2, 0, requests[0]);
        Check.due("the first is not, it was no later by being sent again", b.x.server(0, 2), 6);
        b.bring(2, 0, requests[1]);
        Check.due("now the second is not", b.x.server(0, 2), 7);
        rejectIsKeptToo();
    }

    private static void rejectIsKeptToo() {
        Bench b = bench();
        int[] reject = Wire.request(KEY, 7, 7, 1, -1, Wire.packet(2, 0, 1, 0));
        b.bring(2, 0, reject);
        int[] first = b.latest();
        b.x.user(0, 1, 1);
        b.bring(2, 0, reject);
        Check.bytes("a REJECT again", b.latest(), first);
        Check.due("two wait", b.x.waiting(), 2);
    }

    private static void bothServers() {
        Bench b = bench();
        int[] datagram = Wire.request(KEY, 7, 7, 1, -1, Wire.packet(2, 0, 1, 1));
        b.bring(2, 0, datagram);
        b.bring(2, 1, datagram);
        Check.due("each its own sessions", b.x.server(0, 2) + 10 * b.x.server(1, 2), 11);
        int[] request = typed(1, 1, Wire.row(4), Wire.four(random(11, 1, 0)));
        Check.bytes("each its own randoms", b.latest(), Wire.answer(KEY, 11, 7, 7, 0, request));
    }
}
