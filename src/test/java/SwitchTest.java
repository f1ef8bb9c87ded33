/**
 * The term PORT: what the switch does with what promise 7 (pass) delivers to it, looked at by promises 15 (port),
 * 18 (wrong) and 20 (favourite). What it does by ticks is in TickTest.
 */
public final class SwitchTest {
    private static final int KEY = -77;

    public static void main(String[] args) {
        nextIdWrapsAround();
        nextIdIsOneMoreThanThatSent();
        nextIdIsThePortsOwn();
        begins();
        userAndAuthorisedStay();
        frameWithoutLink();
        frameWhileHeld();
        start();
        logoff();
        idOfLast();
        whileAwaited();
        identityOfOneByte();
        anyByteIsAUser();
        workingTakesAnything();
        asksWithUserTokenAndPacket();
        otherFrames();
        queryOfThatServer();
        idOfTheQuery();
        withoutQuery();
        codeAndPacket();
        authenticatorAndSeal();
        notAcceptedIsCountedAndNothingElse();
        anyAnswerMakesFavourite();
        goesOn();
        tokenOfTheAnswer();
        success();
        visits();
        failure();
        failedKeepsUserAndToken();
        closeForgets();
        Check.end();
    }

    private static int[] response(int id, int... typeAndData) {
        return Wire.frame(Wire.packet(2, id, typeAndData));
    }

    /** An answer to the n-th request of the switch. */
    private static int[] answer(int n, int code, int token, int... packet) {
        return Wire.answer(KEY, code, n & 255, Wire.authenticator(KEY, n), token, packet);
    }

    /** Port 2 has asked server 0 by request 0 for user 6, by the response with id 0; nothing waits. */
    private static Bench asked() {
        Bench b = new Bench(KEY);
        b.query(2, 6);
        b.loseAll();
        return b;
    }

    /** Port 2 is OPEN; its NEXT id is 45, and the switch has made one request. */
    private static Bench open() {
        Bench b = asked();
        b.bring(3, 0, answer(0, 2, -1, 3, 44, 3));
        b.loseAll();
        return b;
    }

    private static void nothing(String what, Bench b, int p, int... frame) {
        int wrongs = b.x.wrong(0);
        b.idle(what, 0, p, frame);
        Check.due(what + " is not counted", b.x.wrong(0), wrongs);
    }

    private static void nextIdWrapsAround() {
        Check.says("the NEXT id is one more (mod 256; 0 at first)");
        Bench b = new Bench(KEY);
        Check.due("at first", b.x.port(0, 11), 0);
        b.x.link(0, true);
        Check.bytes("the first request", b.latest(), 0, 1, 0, 4, 1);
        Check.due("then", b.x.port(0, 11), 1);
        for (int id : new int[] {253, 254, 255}) {
            b = asked();
            b.bring(3, 0, answer(0, 11, 1, 1, id, 4, 4));
            Check.due("after id " + id, b.x.port(2, 11), (id + 1) % 256);
            b.bring(0, 2, 1);
            Check.bytes("the next request", b.latest(), 0, 1, (id + 1) % 256, 4, 1);
            Check.due("after that", b.x.port(2, 11), (id + 2) % 256);
        }
    }

    private static void nextIdIsOneMoreThanThatSent() {
        Check.says("one more than the id of that packet, whoever made it");
        int[][] answers = {answer(0, 11, 1, 1, 90, 4, 4), answer(0, 2, -1, 3, 90, 3), answer(0, 3, -1, 4, 90, 3)};
        for (int[] answer : answers) {
            Bench b = asked();
            Check.due("of the switch's own", b.x.port(2, 11), 1);
            b.bring(3, 0, answer);
            Check.due("of the server's", b.x.port(2, 11), 91);
        }
        Bench b = asked();
        b.bring(3, 0, answer(0, 11, 1, 1, 0, 4, 4));
        Check.due("it may be the same again", b.x.port(2, 11), 1);
        b = asked();
        b.bring(3, 0, answer(0, 2, -1, 3, 255, 3));
        Check.due("a SUCCESS with 255", b.x.port(2, 11), 0);
    }

    private static void nextIdIsThePortsOwn() {
        Check.says("A PORT of the switch has ... the NEXT id");
        Bench b = new Bench(KEY);
        b.x.link(1, true);
        b.x.link(1, false);
        b.x.link(1, true);
        b.x.link(3, true);
        int[] due = {0, 2, 0, 1};
        for (int p = 0; p < 4; p++) {
            Check.due("port " + p, b.x.port(p, 11), due[p]);
        }
    }

    private static void begins() {
        Check.says("To BEGIN: ASKING, no query, no token, a REQUEST of type 1 ... is awaited, was sent again 0 times, CLOCK 0");
        Bench b = asked();
        b.bring(3, 0, answer(0, 11, 40, 1, 7, 4, 4));
        b.ticks(7);
        b.port("a token, and sent again", 2, 2, 0, 1, 1, 2, -1, 0, 6, 40, 0, 0, 8);
        b.bring(0, 2, 1);
        b.port("begin", 2, 1, 0, 1, 0, 0, -1, 0, 6, -1, 0, 0, 9);
        Check.bytes("the request", b.latest(), 0, 1, 8, 4, 1);
        b = asked();
        b.ticks(5);
        b.port("a query", 2, 2, 0, 0, 0, 1, 0, 2, 6, -1, 0, 0, 1);
        b.bring(0, 2, 1);
        b.port("no query", 2, 1, 0, 1, 0, 0, -1, 0, 6, -1, 0, 0, 2);
        b.bring(3, 0, answer(0, 2, -1, 3, 0, 3));
        Check.due("its answer is too late", b.x.wrong(0), 1);
    }

    private static void userAndAuthorisedStay() {
        Check.says("(its user stays, and whether it is authorised)");
        Bench b = open();
        b.x.data(2, 5, 8);
        b.bring(0, 2, 1);
        b.port("authorised", 2, 1, 1, 1, 0, 0, -1, 0, 6, -1, 1, 1, 46);
        Check.due("the bridge forgets nothing", b.x.learned(5), 2);
        b = asked();
        b.bring(0, 2, 1);
        b.port("not authorised", 2, 1, 0, 1, 0, 0, -1, 0, 6, -1, 0, 0, 2);
    }

    private static void frameWithoutLink() {
        Check.says("A frame where there is no link ...: nothing, RIGHT or WRONG.");
        Bench b = new Bench(KEY);
        b.x.link(1, true);
        b.x.link(1, false);
        b.loseAll();
        int[][] frames = {{1}, {2}, {9, 9}, {0}, response(0, 1, 5)};
        for (int[] frame : frames) {
            nothing("never a link", b, 0, frame);
            nothing("no link any more", b, 1, frame);
        }
        b.x.link(1, true);
        b.bring(0, 1, 9, 9);
        Check.due("with a link it is counted", b.x.wrong(0), 1);
    }

    private static void frameWhileHeld() {
        Check.says("A frame ... while HELD: nothing, RIGHT or WRONG.");
        Bench b = asked();
        b.bring(3, 0, answer(0, 3, -1, 4, 0, 3));
        b.loseAll();
        int[][] frames = {{1}, {2}, {9, 9}, {0}, response(0, 1, 5), response(1, 1, 5)};
        for (int[] frame : frames) {
            nothing("HELD", b, 2, frame);
        }
        b.ticks(6);
        b.bring(0, 2, 9, 9);
        Check.due("HELD no more: it is counted", b.x.wrong(0), 1);
    }

    private static void start() {
        Check.says("START: begin.");
        Bench b = new Bench(KEY);
        b.x.link(1, true);
        b.ticks(3);
        b.bring(0, 1, 1);
        b.port("while ASKING", 1, 1, 0, 1, 0, 0, -1, 0, -1, -1, 0, 0, 2);
        b = asked();
        b.bring(0, 2, 1);
        b.port("while WORKING", 2, 1, 0, 1, 0, 0, -1, 0, 6, -1, 0, 0, 2);
        b = open();
        b.bring(0, 2, 1);
        b.port("while OPEN", 2, 1, 1, 1, 0, 0, -1, 0, 6, -1, 1, 0, 46);
    }

    private static void logoff() {
        Check.says("LOGOFF: close, begin.");
        Bench b = open();
        b.x.data(2, 5, 8);
        b.bring(0, 2, 2);
        b.port("while OPEN", 2, 1, 0, 1, 0, 0, -1, 0, 6, -1, 1, 1, 46);
        Check.due("the bridge forgot", b.x.learned(5), -1);
        b = new Bench(KEY);
        b.x.link(1, true);
        b.bring(0, 1, 2);
        b.port("while ASKING", 1, 1, 0, 1, 0, 0, -1, 0, -1, -1, 0, 0, 2);
    }

    private static void idOfLast() {
        Check.says("A RESPONSE with the id of LAST");
        for (int id : new int[] {0, 1, 128, 255}) {
            Bench b = asked();
            b.bring(3, 0, answer(0, 11, 1, 1, id, 4, 4));
            nothing("an id less", b, 2, response(id + 255 & 255, 4));
            nothing("an id more", b, 2, response(id + 1 & 255, 4));
            b.bring(0, 2, response(id, 4));
            b.port("its id", 2, 2, 0, 0, 0, 0, 0, 1);
        }
        Bench b = new Bench(KEY);
        b.x.link(2, true);
        b.bring(0, 2, 1);
        nothing("that of the request before", b, 2, response(0, 1, 6));
        b.bring(0, 2, response(1, 1, 6));
        Check.due("that of LAST", b.x.port(2, 0), 2);
    }

    private static void whileAwaited() {
        Check.says("while that is awaited");
        Bench b = new Bench(KEY);
        b.x.link(2, true);
        b.bring(0, 2, response(0, 1, 6));
        Check.due("awaited", b.x.port(2, 5), 0);
        nothing("once more", b, 2, response(0, 1, 6));
        nothing("another user", b, 2, response(0, 1, 5));
        b.bring(3, 0, answer(0, 2, -1, 3, 0, 3));
        nothing("when OPEN", b, 2, response(0, 1, 6));
    }

    private static void identityOfOneByte() {
        Check.says("in ASKING if it is of type 1 with one byte of data: that is the user; WORKING");
        Bench b = new Bench(KEY);
        b.x.link(0, true);
        b.ticks(2);
        nothing("no byte", b, 0, response(0, 1));
        nothing("two bytes", b, 0, response(0, 1, 6, 6));
        for (int type : new int[] {0, 2, 3, 4, 51}) {
            nothing("type " + type, b, 0, response(0, type, 6));
        }
        b.port("it is awaited still", 0, 1, 0, 1, 0, 2, -1, 0, -1, -1, 0, 0, 1);
        b.bring(0, 0, response(0, 1, 6));
        b.port("one byte", 0, 2, 0, 0, 0, 0, 0, 1, 6, -1, 0, 0, 1);
    }

    private static void anyByteIsAUser() {
        Check.says("with one byte of data: that is the user");
        for (int u : new int[] {0, 7, 8, 127, 128, 255}) {
            Bench b = new Bench(KEY);
            b.query(2, u);
            Check.due("user " + u, b.x.port(2, 7), u);
            Check.bytes("as NAME", java.util.Arrays.copyOfRange(b.latest(), 7, 10), 1, 3, u);
        }
    }

    private static void workingTakesAnything() {
        Check.says("in WORKING anything; then nothing is awaited, and the FAVOURITE server (0 at first) is asked");
        int[][] contents = {{0}, {1}, {1, 5}, {1, 5, 5}, {3, 4}, {255, 1, 2, 3, 4, 5, 6, 7, 8, 9, 10, 11, 12, 13, 14, 15, 16}};
        for (int[] content : contents) {
            Bench b = asked();
            b.bring(3, 0, answer(0, 11, 9, 1, 33, 4, 4));
            b.ticks(1);
            b.bring(0, 2, response(33, content));
            b.port("the user stays", 2, 2, 0, 0, 0, 0, 0, 1, 6, 9);
            Check.bytes("asked", b.latest(),
                Wire.request(KEY, 1, Wire.authenticator(KEY, 1), 6, 9, Wire.packet(2, 33, content)));
        }
    }

    private static void asksWithUserTokenAndPacket() {
        Check.says("with CODE 1, the user as NAME, the TOKEN if it has one, and the response's packet; TRIES 1, CLOCK 0");
        Bench b = new Bench(KEY);
        b.x.link(3, true);
        b.ticks(3);
        b.loseAll();
        b.bring(0, 3, response(0, 1, 200));
        Check.bytes("without TOKEN", b.latest(),
            Wire.request(KEY, 0, Wire.authenticator(KEY, 0), 200, -1, Wire.packet(2, 0, 1, 200)));
        Check.due("its way", b.x.message(0, 0), 2);
        Check.due("its place", b.x.message(0, 1), 0);
        b.port("asked", 3, 2, 0, 0, 0, 0, 0, 1, 200, -1, 0, 0, 1);
        b.bring(3, 0, answer(0, 11, 513, 1, 5, 4, 4));
        b.bring(0, 3, response(5, 4, 1));
        Check.bytes("with TOKEN", b.latest(),
            Wire.request(KEY, 1, Wire.authenticator(KEY, 1), 200, 513, Wire.packet(2, 5, 4, 1)));
    }

    private static void otherFrames() {
        Check.says("All else: nothing.");
        Bench b = new Bench(KEY);
        b.x.link(2, true);
        int[][] frames = {{0, 1, 0, 5, 1, 6}, {0, 3, 0, 3}, {0, 4, 0, 3}};
        for (int[] frame : frames) {
            nothing("no response", b, 2, frame);
        }
        nothing("no response while OPEN", open(), 2, 0, 4, 0, 3);
    }

    private static void queryOfThatServer() {
        Check.says("there is a port whose query was sent to s latest");
        int[] right = answer(0, 2, -1, 3, 0, 3);
        Bench b = asked();
        b.bring(3, 1, right);
        Check.due("from the other server", b.x.wrong(0), 1);
        b.bring(3, 0, right);
        Check.due("from the one asked", b.x.port(2, 0), 3);
        b = asked();
        b.ticks(7);
        b.bring(3, 0, right);
        Check.due("after its second try", b.x.port(2, 0), 3);
        b = asked();
        b.ticks(8);
        b.bring(3, 0, right);
        b.bring(3, 1, right);
        b.bring(3, 0, answer(1, 2, -1, 3, 0, 3));
        Check.due("when the other was asked", b.x.wrong(0), 3);
        b.bring(3, 1, answer(1, 2, -1, 3, 0, 3));
        Check.due("from the other then", b.x.port(2, 0), 3);
        Check.due("which is the FAVOURITE", b.x.favourite(), 1);
    }

    private static void idOfTheQuery() {
        Check.says("and has its ID");
        Bench b = new Bench(KEY);
        b.query(0, 1);
        b.query(3, 2);
        b.query(2, 3);
        for (int id : new int[] {3, 255}) {
            b.bring(3, 0, Wire.answer(KEY, 2, id, Wire.authenticator(KEY, 0), -1, Wire.packet(3, 0)));
        }
        Check.due("none has it", b.x.wrong(0), 2);
        b.bring(3, 0, Wire.answer(KEY, 2, 1, Wire.authenticator(KEY, 0), -1, Wire.packet(3, 0)));
        Check.due("the ID of one and the AUTHENTICATOR of another", b.x.wrong(0), 3);
        b.bring(3, 0, answer(1, 2, -1, 3, 0, 3));
        b.bring(3, 0, answer(2, 3, -1, 4, 0, 3));
        b.bring(3, 0, answer(0, 11, -1, 1, 0, 4, 4));
        int[] states = {2, 0, 4, 3};
        for (int p = 0; p < 4; p++) {
            Check.due("each its own: port " + p, b.x.port(p, 0), states[p]);
        }
        Check.due("accepted", b.x.wrong(0), 3);
    }

    private static void withoutQuery() {
        Check.says("Then the query is gone");
        int[] right = answer(0, 2, -1, 3, 0, 3);
        Bench b = new Bench(KEY);
        b.bring(3, 0, right);
        Check.due("no query yet", b.x.wrong(0), 1);
        b = asked();
        b.bring(3, 0, right);
        Check.due("the first time", b.x.wrong(0), 0);
        b.bring(3, 0, right);
        Check.due("the second time", b.x.wrong(0), 1);
        b = asked();
        b.x.link(2, false);
        b.bring(3, 0, right);
        Check.due("without link", b.x.wrong(0), 1);
        b = asked();
        b.ticks(16);
        b.bring(3, 0, right);
        b.bring(3, 1, answer(1, 2, -1, 3, 0, 3));
        Check.due("while HELD a datagram is counted", b.x.wrong(0), 2);
    }

    private static void codeAndPacket() {
        Check.says("and CODE and packet are 11 and a REQUEST, 2 and a SUCCESS, or 3 and a FAILURE");
        int[][] packets = {{1, 1, 4, 4}, {2, 1, 4, 4}, {3, 1, 3}, {4, 1, 3}};
        for (int code : new int[] {0, 1, 2, 3, 4, 10, 11, 12, 255}) {
            for (int[] packet : packets) {
                Bench b = asked();
                b.bring(3, 0, answer(0, code, -1, packet));
                boolean fits = code == 11 && packet[0] == 1 || code == 2 && packet[0] == 3 || code == 3 && packet[0] == 4;
                Check.due("CODE " + code + " and " + packet[0], b.x.wrong(0), fits ? 0 : 1);
                Check.due("is sent on", b.waiting(), fits ? 1 : 0);
            }
        }
    }

    private static void authenticatorAndSeal() {
        Check.says("AUTHENTICATOR and SEAL are as said for that one");
        Bench b = asked();
        b.ticks(8);
        b.bring(3, 1, Wire.answer(KEY, 2, 1, Wire.authenticator(KEY, 0), -1, Wire.packet(3, 0)));
        Check.due("as for the first request", b.x.wrong(0), 1);
        b.bring(3, 1, Wire.answer(KEY, 2, 1, Wire.authenticator(KEY, 1), -1, Wire.packet(3, 0)));
        Check.due("as for the second, which was sent latest", b.x.port(2, 0), 3);
    }

    private static void notAcceptedIsCountedAndNothingElse() {
        Check.says("Where ... a datagram that is not accepted, comes to, it is counted there, and nothing else happens.");
        Bench b = asked();
        int[] right = answer(0, 11, 9, 1, 1, 4, 4);
        int[][] rows = {Wire.with(right, 20, Wire.row(right[20] ^ 1)), answer(0, 2, -1, 4, 1, 3), {3},
            answer(1, 11, 9, 1, 1, 4, 4)};
        for (int i = 0; i < rows.length; i++) {
            b.idle("not accepted", 3, 0, rows[i]);
            Check.due("counted", b.x.wrong(0), i + 1);
        }
        b.idle("from the other server", 3, 1, right);
        Check.due("the FAVOURITE stays", b.x.favourite(), 0);
        Check.due("not counted elsewhere", b.x.wrong(1) + b.x.wrong(2), 0);
    }

    private static void anyAnswerMakesFavourite() {
        Check.says("and s is the FAVOURITE");
        int[][] answers = {answer(1, 11, 9, 1, 1, 4, 4), answer(1, 2, -1, 3, 1, 3), answer(1, 3, -1, 4, 1, 3)};
        for (int[] answer : answers) {
            Bench b = asked();
            b.ticks(8);
            Check.due("0 at first", b.x.favourite(), 0);
            b.bring(3, 1, answer);
            Check.due("then 1", b.x.favourite(), 1);
            b.query(0, 5);
            Check.due("which other ports ask too", b.x.port(0, 5), 1);
            b.ticks(8);
            Check.due("the other one is 0 then", b.x.port(0, 5), 0);
            b.bring(3, 0, answer(3, 3, -1, 4, 1, 3));
            Check.due("and it is the FAVOURITE again", b.x.favourite(), 0);
        }
    }

    private static void goesOn() {
        Check.says("11: ... the packet is sent, is LAST, is awaited, was sent again 0 times, CLOCK 0");
        Bench b = new Bench(KEY);
        b.x.link(2, true);
        b.ticks(11);
        b.loseAll();
        b.bring(0, 2, response(0, 1, 6));
        b.ticks(2);
        b.port("sent again twice", 2, 2, 0, 0, 2, 2, 0, 1, 6, -1, 0, 0, 1);
        b.loseAll();
        int[] longest = Wire.packet(1, 90, 4, 1, 2, 3, 4, 5, 6, 7, 8, 9, 10, 11, 12, 13, 14, 15, 16);
        b.bring(3, 0, answer(0, 11, 7, longest));
        Check.bytes("to the host", b.latest(), Wire.frame(longest));
        Check.due("its way", b.x.message(0, 0), 1);
        Check.due("its place", b.x.message(0, 1), 2);
        b.port("awaited", 2, 2, 0, 1, 0, 0, -1, 0, 6, 7, 0, 0, 91);
        b.ticks(5);
        Check.bytes("it is LAST", b.latest(), Wire.frame(longest));
    }

    private static void tokenOfTheAnswer() {
        Check.says("11: the port's TOKEN is the datagram's (none, if it has none)");
        for (int token : new int[] {0, 1, 255, 256, 32768, 65535}) {
            Bench b = asked();
            b.bring(3, 0, answer(0, 11, token, 1, 5, 4, 4));
            Check.due("TOKEN " + token, b.x.port(2, 8), token);
            b.bring(0, 2, response(5, 4));
            b.bring(3, 0, answer(1, 11, -1, 1, 6, 4, 4));
            Check.due("none", b.x.port(2, 8), -1);
        }
        Bench b = asked();
        b.bring(3, 0, answer(0, 2, 5, 3, 0, 3));
        Check.due("a SUCCESS with a TOKEN leaves it", b.x.port(2, 8), -1);
    }

    private static void success() {
        Check.says("2: it is sent; OPEN, CLOCK 0, authorised");
        Bench b = asked();
        b.ticks(3);
        b.bring(3, 0, answer(0, 2, -1, 3, 44, 3));
        Check.bytes("sent", b.latest(), 0, 3, 44, 3);
        b.port("OPEN", 2, 3, 1, 0, 0, 0, -1, 0, 6, -1, 1, 0, 45);
        b = sentAgainOnce();
        b.bring(3, 0, answer(0, 2, -1, 3, 0, 3));
        b.port("LAST was sent again once", 2, 3, 1, 0, 1, 0, -1, 0, 6, -1, 1, 0, 1);
    }

    private static void visits() {
        Check.says("if it was not, a visit begins (VISITS 1 more, TRAFFIC 0)");
        Bench b = open();
        b.x.data(2, 1, 8);
        b.x.data(2, 1, 8);
        b.bring(0, 2, 1);
        b.bring(0, 2, response(45, 1, 6));
        b.bring(3, 0, answer(1, 2, -1, 3, 45, 3));
        b.port("it was authorised", 2, 3, 1, 0, 0, 0, -1, 0, 6, -1, 1, 2);
        Check.due("the bridge forgot nothing", b.x.learned(1), 2);
        b.bring(0, 2, 2);
        b.port("after LOGOFF", 2, 1, 0, 1, 0, 0, -1, 0, 6, -1, 1, 2);
        b.bring(0, 2, response(46, 1, 6));
        b.bring(3, 0, answer(2, 2, -1, 3, 46, 3));
        b.port("it was not authorised", 2, 3, 1, 0, 0, 0, -1, 0, 6, -1, 2, 0);
    }

    private static void failure() {
        Check.says("3: it is sent; fail.");
        Bench b = open();
        b.x.data(2, 1, 8);
        b.bring(0, 2, 1);
        b.bring(0, 2, response(45, 1, 6));
        b.ticks(3);
        b.bring(3, 0, answer(1, 3, -1, 4, 70, 3));
        Check.bytes("sent", b.latest(), 0, 4, 70, 3);
        b.port("HELD", 2, 4, 0, 0, 0, 0, -1, 0, 6, -1, 1, 1, 71);
        Check.due("the bridge forgot", b.x.learned(1), -1);
    }

    private static void failedKeepsUserAndToken() {
        Check.says("To FAIL: close, HELD, no query, nothing is awaited, CLOCK 0 (user and TOKEN stay)");
        Bench b = asked();
        b.bring(3, 0, answer(0, 11, 40, 1, 7, 4, 4));
        b.bring(0, 2, response(7, 4));
        b.ticks(2);
        b.bring(3, 0, answer(1, 3, -1, 4, 7, 3));
        b.port("by a server", 2, 4, 0, 0, 0, 0, -1, 0, 6, 40, 0, 0, 8);
        b = asked();
        b.bring(3, 0, answer(0, 11, 40, 1, 7, 4, 4));
        b.bring(0, 2, response(7, 4));
        b.ticks(16);
        b.port("by ticks", 2, 4, 0, 0, 0, 0, -1, 0, 6, 40, 0, 0, 8);
        b = sentAgainOnce();
        b.bring(3, 0, answer(0, 3, -1, 4, 0, 3));
        b.port("LAST was sent again once", 2, 4, 0, 0, 1, 0, -1, 0, 6, -1, 0, 0, 1);
    }

    /** Port 2 has asked by the response to a request that was sent again once. */
    private static Bench sentAgainOnce() {
        Bench b = new Bench(KEY);
        b.x.link(2, true);
        b.ticks(5);
        b.loseAll();
        b.bring(0, 2, response(0, 1, 6));
        return b;
    }

    private static void closeForgets() {
        Check.says("To CLOSE: no more authorised; the bridge forgets what it learned at this port");
        Bench b = new Bench(KEY);
        for (int p = 0; p < 3; p++) {
            b.open(p, p + 1);
        }
        for (int a = 0; a < 8; a++) {
            b.x.data(a % 3, a, 8);
        }
        b.bring(0, 1, 2);
        for (int a = 0; a < 8; a++) {
            Check.due("address " + a, b.x.learned(a), a % 3 == 1 ? -1 : a % 3);
        }
        Check.due("closed", b.x.port(1, 1), 0);
        Check.due("the others stay", b.x.port(0, 1) + b.x.port(2, 1), 2);
    }
}
