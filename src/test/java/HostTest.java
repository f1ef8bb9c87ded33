/** The term HOST: what a host does with what promise 7 (pass) delivers to it, looked at by promises 16 and 18. */
public final class HostTest {
    private static final int KEY = 0xCAFE1234;
    private static final int BOTH = 3;

    public static void main(String[] args) {
        withoutUser();
        firstAndLastUser();
        sameIdAgain();
        noLatestIsNoId();
        identity();
        challengeOfFourBytes();
        challengeIsProof();
        mutualOfFiveBytes();
        firstByteOne();
        randomsAreCounted();
        proofNeedsTheirs();
        proofOfFiveBytes();
        proofMustBeRight();
        newRandomReplacesTheOld();
        refusals();
        refusesWhateverTheData();
        otherRequests();
        responsesAreLatest();
        success();
        failure();
        allElse();
        hostsAreApart();
        Check.end();
    }

    /** Host 2 with user 6 and these methods. */
    private static Bench with(int methods) {
        Bench b = new Bench(1);
        b.x.host(2, 6, KEY, methods);
        return b;
    }

    private static int[] request(int id, int... typeAndData) {
        return Wire.frame(Wire.packet(1, id, typeAndData));
    }

    private static int[] response(int id, int... typeAndData) {
        return Wire.frame(Wire.packet(2, id, typeAndData));
    }

    private static void sends(String what, Bench b, int[] frame, int... due) {
        int before = b.waiting();
        b.bring(1, 2, frame);
        Check.due(what + " sends one", b.waiting(), before + 1);
        Check.bytes(what, b.latest(), due);
    }

    private static void nothing(String what, Bench b, int... frame) {
        b.idle(what, 1, 2, frame);
        Check.due(what + " is not WRONG", b.x.wrong(1), 0);
    }

    private static int[] challenge(int id) {
        return request(id, 4, 1, 2, 3, 4);
    }

    private static int[] metChallenge(int id) {
        int hash = Wire.hash(Wire.row(id), Wire.four(KEY), Wire.row(1, 2, 3, 4));
        return response(id, Wire.cat(Wire.row(4), Wire.four(hash)));
    }

    private static int ours(int n) {
        return Wire.hash(Wire.four(KEY), Wire.row(2), Wire.four(n));
    }

    private static int[] proof(int step, int key, int first, int second) {
        return Wire.cat(Wire.row(51, step), Wire.four(Wire.mac(key, Wire.row(step), Wire.four(first), Wire.four(second))));
    }

    private static int[] answeredRandom(int id, int theirs, int n) {
        int mac = Wire.mac(KEY, Wire.row(2), Wire.four(theirs), Wire.four(ours(n)));
        return response(id, Wire.cat(Wire.row(51, 2), Wire.four(ours(n)), Wire.four(mac)));
    }

    private static void withoutUser() {
        Check.says("A host without user does nothing with a frame, RIGHT or WRONG.");
        Bench b = with(BOTH);
        b.x.host(2, -1, KEY, BOTH);
        int[][] frames = {request(1, 1), challenge(1), request(1, 51, 1, 0, 0, 0, 5), {7, 7}, {0}, {1},
            Wire.frame(Wire.packet(4, 0)), Wire.frame(Wire.packet(3, 0))};
        for (int[] frame : frames) {
            nothing("without user", b, frame);
        }
        Check.bytes("the station", b.view().station(2), 0, 0, -1, -1, 0);
        b.x.host(2, 0, KEY, BOTH);
        b.bring(1, 2, 7, 7);
        Check.due("with a user it is counted", b.x.wrong(1), 1);
    }

    private static void firstAndLastUser() {
        Check.says("the response of type 1 has the user as its only byte of data");
        for (int u : new int[] {0, 1, 7}) {
            Bench b = new Bench(1);
            b.x.host(2, u, KEY, 0);
            sends("user " + u, b, request(255, 1), 0, 2, 255, 5, 1, u);
        }
    }

    private static void sameIdAgain() {
        Check.says("A REQUEST with the id of the LATEST response: that is sent again.");
        Bench b = with(BOTH);
        sends("a response", b, challenge(7), metChallenge(7));
        sends("the same request", b, challenge(7), metChallenge(7));
        sends("whatever it asks", b, request(7, 1), metChallenge(7));
        sends("whatever it asks", b, request(7, 99, 1), metChallenge(7));
        sends("whatever it asks", b, request(7, 51, 1, 0, 0, 0, 5), metChallenge(7));
        Check.bytes("nothing else happens", b.view().station(2), 0, 1, 7, 6, 0);
        sends("an id more", b, request(8, 1), response(8, 1, 6));
        sends("the one ahead of the LATEST is not kept", b, request(7, 1), response(7, 1, 6));
        sends("an id less", b, request(6, 51, 1, 0, 0, 0, 5), answeredRandom(6, 5, 0));
        sends("again with its random", b, request(6, 51, 1, 0, 0, 0, 5), answeredRandom(6, 5, 0));
        Check.due("one random", b.x.station(2, 4), 1);
    }

    private static void noLatestIsNoId() {
        Check.says("perhaps a LATEST response");
        for (int id : new int[] {0, 1, 254, 255}) {
            Bench b = with(BOTH);
            Check.due("none", b.x.station(2, 2), -1);
            sends("none has id " + id, b, request(id, 1), response(id, 1, 6));
            Check.due("its id", b.x.station(2, 2), id);
        }
    }

    private static void identity() {
        Check.says("of type 1: no proof any more");
        Bench b = with(1);
        b.bring(1, 2, challenge(7));
        Check.due("proof", b.x.station(2, 1), 1);
        sends("type 1", b, request(8, 1), response(8, 1, 6));
        Check.due("no proof", b.x.station(2, 1), 0);
        sends("with data too", b, request(9, 1, 5, 5), response(9, 1, 6));
        int[] longest = new int[17];
        longest[0] = 1;
        sends("with 16 bytes of data", b, request(10, longest), response(10, 1, 6));
    }

    private static void challengeOfFourBytes() {
        Check.says("Of type 4 with 4 bytes of data, with CHALLENGE among its methods");
        for (int methods : new int[] {1, 3}) {
            Bench b = with(methods);
            nothing("no byte", b, request(8, 4));
            nothing("3 bytes", b, request(8, 4, 1, 2, 3));
            nothing("5 bytes", b, request(8, 4, 1, 2, 3, 4, 5));
            sends("4 bytes", b, challenge(8), metChallenge(8));
        }
    }

    private static void challengeIsProof() {
        Check.says("it has proof; the response of type 4 is the int HASH of the id, the key and these four bytes");
        for (int id : new int[] {0, 127, 128, 255}) {
            Bench b = with(1);
            Check.due("no proof yet", b.x.station(2, 1), 0);
            sends("id " + id, b, challenge(id), metChallenge(id));
            Check.due("proof", b.x.station(2, 1), 1);
            Check.due("no random of its own", b.x.station(2, 4), 0);
        }
    }

    private static void mutualOfFiveBytes() {
        Check.says("Of type 51 with 5 bytes of data, the first one 1, with MUTUAL among its methods");
        for (int methods : new int[] {2, 3}) {
            Bench b = with(methods);
            nothing("no byte", b, request(8, 51));
            nothing("1 byte", b, request(8, 51, 1));
            nothing("4 bytes", b, request(8, 51, 1, 0, 0, 5));
            nothing("6 bytes", b, request(8, 51, 1, 0, 0, 0, 5, 0));
            nothing("9 bytes", b, request(8, 51, 1, 0, 0, 0, 5, 0, 0, 0, 0));
            sends("5 bytes", b, request(8, 51, 1, 0, 0, 0, 5), answeredRandom(8, 5, 0));
        }
    }

    private static void firstByteOne() {
        Check.says("the first one 1");
        Bench b = with(BOTH);
        for (int first : new int[] {0, 2, 3, 4, 255}) {
            nothing("the first one " + first, b, request(8, 51, first, 0, 0, 0, 5));
        }
        sends("the first one 1", b, request(8, 51, 1, 128, 255, 0, 127), answeredRandom(8, 0x80FF007F, 0));
    }

    private static void randomsAreCounted() {
        Check.says("the int n (n such it made before)");
        Bench b = with(2);
        for (int n = 0; n < 3; n++) {
            Check.due("randoms made", b.x.station(2, 4), n);
            sends("random " + n, b, request(20 + n, 51, 1, 0, 0, 0, 5), answeredRandom(20 + n, 5, n));
        }
        b.x.host(2, 6, KEY, 2);
        sends("counted on by host", b, request(9, 51, 1, 0, 0, 0, 5), answeredRandom(9, 5, 3));
        b.x.start(2, true);
        sends("counted on by start", b, request(9, 51, 1, 0, 0, 0, 5), answeredRandom(9, 5, 4));
        Check.due("randoms made", b.x.station(2, 4), 5);
    }

    private static void proofNeedsTheirs() {
        Check.says("if it has THEIRS");
        Bench b = with(BOTH);
        nothing("a proof of zeros", b, request(1, proof(3, KEY, 0, 0)));
        b.bring(1, 2, request(10, 51, 1, 0, 0, 0, 0));
        sends("THEIRS may be 0", b, request(11, proof(3, KEY, ours(0), 0)), response(11, proof(4, KEY, 0, ours(0))));
        b.x.start(2, true);
        nothing("gone by start", b, request(12, proof(3, KEY, ours(0), 0)));
        b.bring(1, 2, request(10, 51, 1, 0, 0, 0, 0));
        b.x.host(2, 6, KEY, BOTH);
        nothing("gone by host", b, request(12, proof(3, KEY, ours(1), 0)));
    }

    private static void proofOfFiveBytes() {
        Check.says("Of type 51 with 5 bytes of data, the first one 3");
        Bench b = with(2);
        b.bring(1, 2, request(10, 51, 1, 0, 0, 0, 9));
        int[] right = proof(3, KEY, ours(0), 9);
        nothing("4 bytes", b, request(11, java.util.Arrays.copyOf(right, 5)));
        nothing("6 bytes", b, request(11, Wire.cat(right, Wire.row(0))));
        nothing("the first one 2", b, request(11, Wire.with(right, 1, Wire.row(2))));
        nothing("the first one 4", b, request(11, Wire.with(right, 1, Wire.row(4))));
        nothing("the first one 2, with its own MAC", b, request(11, proof(2, KEY, ours(0), 9)));
        sends("5 bytes, the first one 3", b, request(11, right), response(11, proof(4, KEY, 9, ours(0))));
        Check.due("proof", b.x.station(2, 1), 1);
    }

    private static void proofMustBeRight() {
        Check.says("and the last four are MAC of its key and (3, OURS, THEIRS)");
        Bench b = with(BOTH);
        b.bring(1, 2, request(10, 51, 1, 0, 0, 0, 9));
        int[] right = proof(3, KEY, ours(0), 9);
        for (int i = 2; i < 6; i++) {
            nothing("byte " + i + " altered", b, request(11, Wire.with(right, i, Wire.row(right[i] ^ 128))));
        }
        nothing("of another key", b, request(11, proof(3, KEY + 1, ours(0), 9)));
        nothing("in the wrong order", b, request(11, proof(3, KEY, 9, ours(0))));
        Check.due("no proof", b.x.station(2, 1), 0);
        b.bring(1, 2, request(11, right));
        Check.due("proof", b.x.station(2, 1), 1);
    }

    private static void newRandomReplacesTheOld() {
        Check.says("no proof any more; these last four are kept as THEIRS");
        Bench b = with(2);
        b.bring(1, 2, request(10, 51, 1, 0, 0, 0, 9));
        b.bring(1, 2, request(11, proof(3, KEY, ours(0), 9)));
        b.bring(1, 2, request(12, 1));
        b.bring(1, 2, request(13, proof(3, KEY, ours(0), 9)));
        Check.due("a type 1 leaves THEIRS", b.x.station(2, 1), 1);
        sends("a new random", b, request(14, 51, 1, 0, 0, 0, 5), answeredRandom(14, 5, 1));
        Check.due("takes the proof", b.x.station(2, 1), 0);
        nothing("the old proof", b, request(15, proof(3, KEY, ours(0), 9)));
        sends("the new one", b, request(15, proof(3, KEY, ours(1), 5)), response(15, proof(4, KEY, 5, ours(1))));
    }

    private static void refusals() {
        Check.says("4 if CHALLENGE is among its methods, else 51 if MUTUAL is, else 0");
        sends("no method", with(0), challenge(3), response(3, 3, 0));
        sends("no method", with(0), request(3, 51, 1, 0, 0, 0, 5), response(3, 3, 0));
        sends("CHALLENGE", with(1), challenge(3), metChallenge(3));
        sends("CHALLENGE", with(1), request(3, 51, 1, 0, 0, 0, 5), response(3, 3, 4));
        sends("MUTUAL", with(2), challenge(3), response(3, 3, 51));
        sends("MUTUAL", with(2), request(3, 51, 1, 0, 0, 0, 5), answeredRandom(3, 5, 0));
        sends("both", with(3), challenge(3), metChallenge(3));
        sends("both", with(3), request(3, 51, 1, 0, 0, 0, 5), answeredRandom(3, 5, 0));
    }

    private static void refusesWhateverTheData() {
        Check.says("Of type 4 or 51 when that method is not among its own: a response of type 3");
        Bench b = with(1);
        b.bring(1, 2, challenge(3));
        int[][] contents = {{51}, {51, 77}, {51, 3, 0, 0, 0, 0}, {51, 1, 2, 3, 4, 5, 6, 7, 8, 9}};
        for (int i = 0; i < contents.length; i++) {
            sends("refuses 51", b, request(10 + i, contents[i]), response(10 + i, 3, 4));
        }
        Check.bytes("proof stays, and no random is made", b.view().station(2), 0, 1, 13, 6, 0);
        b = with(2);
        int[][] others = {{4}, {4, 1, 2, 3}, {4, 1, 2, 3, 4, 5}};
        for (int i = 0; i < others.length; i++) {
            sends("refuses 4", b, request(10 + i, others[i]), response(10 + i, 3, 51));
        }
    }

    private static void otherRequests() {
        Check.says("To all other requests: nothing.");
        Bench b = with(BOTH);
        b.bring(1, 2, challenge(3));
        for (int type : new int[] {0, 2, 3, 5, 50, 52, 255}) {
            nothing("type " + type, b, request(8, type));
            nothing("type " + type, b, request(8, type, 1, 2, 3, 4));
            nothing("type " + type, b, request(8, type, 1, 2, 3, 4, 5));
        }
        Check.due("the LATEST stays", b.x.station(2, 2), 3);
    }

    private static void responsesAreLatest() {
        Check.says("A response has the request's id; it is sent, and is the LATEST one.");
        Bench b = with(2);
        int[][] requests = {request(0, 1), request(255, 51, 1, 0, 0, 0, 9), request(128, proof(3, KEY, ours(0), 9)),
            request(1, 4)};
        for (int[] request : requests) {
            b.bring(1, 2, request);
            Check.due("its id", b.latest()[2], request[2]);
            Check.due("is that of the LATEST", b.x.station(2, 2), request[2]);
            View view = b.view();
            Check.due("one more waits", view.waiting(), 1);
            Check.due("its way", b.x.message(0, 0), 0);
            Check.due("its place", b.x.message(0, 1), 2);
            b.loseAll();
        }
    }

    private static void success() {
        Check.says("SUCCESS: RESULT is 1 if it has proof (else nothing).");
        Bench b = with(1);
        nothing("SUCCESS without proof", b, Wire.frame(Wire.packet(3, 0)));
        Check.due("RESULT", b.x.station(2, 0), 0);
        b.bring(1, 2, challenge(3));
        b.bring(1, 2, Wire.frame(Wire.packet(3, 99)));
        Check.bytes("with proof, whatever its id", b.view().station(2), 1, 1, 3, 6, 0);
        b.bring(1, 2, request(4, 1));
        nothing("without proof again", b, Wire.frame(Wire.packet(3, 4)));
        Check.due("RESULT stays", b.x.station(2, 0), 1);
    }

    private static void failure() {
        Check.says("FAILURE: RESULT is 2, no proof any more.");
        Bench b = with(1);
        b.bring(1, 2, Wire.frame(Wire.packet(4, 200)));
        Check.bytes("without proof", b.view().station(2), 2, 0, -1, 6, 0);
        b.bring(1, 2, challenge(3));
        b.bring(1, 2, Wire.frame(Wire.packet(3, 99)));
        Check.due("RESULT", b.x.station(2, 0), 1);
        b.bring(1, 2, Wire.frame(Wire.packet(4, 99)));
        Check.bytes("with proof", b.view().station(2), 2, 0, 3, 6, 0);
        nothing("SUCCESS then", b, Wire.frame(Wire.packet(3, 99)));
        b = with(2);
        b.bring(1, 2, request(10, 51, 1, 0, 0, 0, 9));
        b.bring(1, 2, Wire.frame(Wire.packet(4, 10)));
        sends("THEIRS stays", b, request(11, proof(3, KEY, ours(0), 9)), response(11, proof(4, KEY, 9, ours(0))));
    }

    private static void allElse() {
        Check.says("All else: nothing.");
        Bench b = with(BOTH);
        b.bring(1, 2, challenge(3));
        nothing("START", b, 1);
        nothing("LOGOFF", b, 2);
        nothing("a response with the id of the LATEST", b, response(3, 1, 1));
        nothing("another response", b, response(4, 4, 1, 2, 3, 4));
    }

    private static void hostsAreApart() {
        Check.says("HOSTS are 0 .. 3 (host h is at port h)");
        for (int h = 0; h < 4; h++) {
            Bench b = new Bench(1);
            b.x.host(h, 6, KEY, 2);
            b.bring(1, h, request(3, 51, 1, 0, 0, 0, 5));
            Check.due("its random", Wire.number(b.latest(), 6), Wire.hash(Wire.four(KEY), Wire.row(h), Wire.four(0)));
            Check.due("its port", b.x.message(0, 1), h);
            for (int other = 0; other < 4; other++) {
                Check.due("the LATEST of host " + other, b.x.station(other, 2), other == h ? 3 : -1);
            }
        }
    }
}
