/** The term SERVER: what a server does with what promise 7 (pass) delivers to it, looked at by promises 17 and 18. */
public final class ServerTest {
    private static final int KEY = 0x0BADF00D;
    private static final int CHALLENGER = 1;
    private static final int PROVER = 2;
    private static final int BOTH = 3;
    private static int authenticators = 100;

    public static void main(String[] args) {
        downIsLost();
        codeOne();
        nameIsLookedAtNoMore();
        notAcceptedIsCountedAndNothingElse();
        latestFourAnswers();
        idAndAuthenticatorBoth();
        noLaterByThat();
        whateverWasAnswered();
        answersAreTheServersOwn();
        oneByteOfData();
        knownUsers();
        knownToBothServers();
        sessionNumbers();
        firstMethod();
        tokenOfSession();
        awaitedId();
        idsWrapAround();
        refusalOfOneByte();
        refusalNamesAMethod();
        methodsOfTheUserNow();
        methodThatBegan();
        challengeOfFourBytes();
        challengeMustBeRight();
        firstProofOfNineBytes();
        firstProofMustBeRight();
        lastProofOfFiveBytes();
        lastProofMustBeRight();
        proofsInTheirOrder();
        otherMethodsType();
        keysOfNow();
        randomsAreCounted();
        nothingElseIsRejected();
        acceptEndsSession();
        rejectEndsSessionOfToken();
        sessionNamedByIdentityStays();
        fourSessions();
        oldestByItsBeginning();
        roomOfEndedSession();
        answersForm();
        Check.end();
    }

    private static Bench bench() {
        Bench b = new Bench(KEY);
        b.x.user(CHALLENGER, 11, 1);
        b.x.user(PROVER, 22, 2);
        b.x.user(BOTH, 33, 3);
        return b;
    }

    /** Brings a packet to server 0 in a new request and answers the datagram that comes back. */
    private static int[] ask(Bench b, int token, int[] packet) {
        return ask(b, 0, token, packet);
    }

    private static int[] ask(Bench b, int server, int token, int[] packet) {
        authenticators++;
        b.bring(2, server, Wire.request(KEY, authenticators & 255, authenticators, 1, token, packet));
        return b.latest();
    }

    private static int[] due(int code, int token, int[] packet) {
        return Wire.answer(KEY, code, authenticators & 255, authenticators, token, packet);
    }

    private static void accepted(String what, Bench b, int token, int[] packet) {
        Check.bytes(what + ": ACCEPT", ask(b, token, packet), due(2, -1, Wire.packet(3, packet[1])));
    }

    private static void rejected(String what, Bench b, int token, int[] packet) {
        Check.bytes(what + ": REJECT", ask(b, token, packet), due(3, -1, Wire.packet(4, packet[1])));
    }

    private static void asked(String what, Bench b, int token, int[] packet, int session, int... typeAndData) {
        int[] request = Wire.packet(1, (packet[1] + 1) % 256, typeAndData);
        Check.bytes(what + ": REQUEST", ask(b, token, packet), due(11, session, request));
    }

    /** A response of type 1: it begins a session that awaits the next id. */
    private static int[] identity(int id, int user) {
        return Wire.packet(2, id, 1, user);
    }

    private static int random(int key, int server, int n) {
        return Wire.hash(Wire.four(key), Wire.row(server), Wire.four(n));
    }

    private static int[] challenge(int key, int n) {
        return Wire.cat(Wire.row(4), Wire.four(random(key, 0, n)));
    }

    private static int[] mutual(int key, int n) {
        return Wire.cat(Wire.row(51, 1), Wire.four(random(key, 0, n)));
    }

    private static int[] met(int id, int key, int n) {
        int hash = Wire.hash(Wire.row(id), Wire.four(key), Wire.four(random(key, 0, n)));
        return Wire.packet(2, id, Wire.cat(Wire.row(4), Wire.four(hash)));
    }

    private static int[] proof(int step, int key, int first, int second) {
        return Wire.cat(Wire.row(51, step), Wire.four(Wire.mac(key, Wire.row(step), Wire.four(first), Wire.four(second))));
    }

    private static int[] firstProof(int key, int random, int theirs) {
        int mac = Wire.mac(key, Wire.row(2), Wire.four(random), Wire.four(theirs));
        return Wire.cat(Wire.row(51, 2), Wire.four(theirs), Wire.four(mac));
    }

    /** A session 0 of the user who has MUTUAL, which awaits id 8. */
    private static Bench proving() {
        Bench b = bench();
        ask(b, -1, identity(7, PROVER));
        return b;
    }

    /** The same when the server's proof was sent: it awaits id 9. */
    private static Bench proven() {
        Bench b = proving();
        ask(b, 0, Wire.packet(2, 8, firstProof(22, random(22, 0, 0), 5)));
        return b;
    }

    private static int[] lastProof() {
        return proof(4, 22, random(22, 0, 0), 5);
    }

    private static void downIsLost() {
        Check.says("both up at first; what comes to one that is down is lost");
        for (int s = 0; s < 2; s++) {
            Bench b = bench();
            b.x.power(s, false);
            b.bring(2, s, Wire.request(KEY, 0, 9, 1, -1, identity(0, BOTH)));
            b.bring(2, s, 1, 2, 3);
            Check.bytes("down", b.view().server(s), 0, 0, 0, 0);
            Check.due("nothing is sent", b.waiting(), 0);
            Check.due("nor counted", b.x.wrong(2), 0);
            b.bring(2, 1 - s, Wire.request(KEY, 0, 9, 1, -1, identity(0, BOTH)));
            b.bring(2, 1 - s, 1, 2, 3);
            Check.bytes("the other is up", b.view().server(1 - s), 1, 1, 1, 1);
            Check.due("it is counted there", b.x.wrong(2), 1);
        }
    }

    private static void codeOne() {
        Check.says("It accepts a datagram that is RIGHT, has CODE 1");
        for (int code : new int[] {0, 1, 2, 3, 11, 255}) {
            Bench b = bench();
            int[] bare = Wire.bare(code, 0, 9, Wire.name(1), Wire.pieces(identity(0, BOTH)), Wire.SEAL);
            b.bring(2, 0, Wire.sealed(KEY, bare, bare.length - 6));
            Check.due("CODE " + code, b.x.wrong(2), code == 1 ? 0 : 1);
            Check.due("CODE " + code + " is answered", b.waiting(), code == 1 ? 1 : 0);
        }
    }

    private static void nameIsLookedAtNoMore() {
        Check.says("a NAME (which is looked at no more)");
        for (int name : new int[] {0, 3, 7, 8, 255}) {
            Bench b = bench();
            b.bring(2, 0, Wire.request(KEY, 0, 9, name, -1, identity(0, BOTH)));
            Check.due("NAME " + name, b.x.server(0, 1), 1);
        }
        Bench b = bench();
        b.bring(2, 0, Wire.request(KEY, 0, 9, -1, -1, identity(0, BOTH)));
        Check.due("no NAME", b.x.wrong(2), 1);
    }

    private static void notAcceptedIsCountedAndNothingElse() {
        Check.says("Where ... a datagram that is not accepted, comes to, it is counted there, and nothing else happens.");
        Bench b = Bench.busy();
        b.x.forge(2, 1);
        int[] right = Wire.request(b.key, 0, 9, 1, 0, Wire.packet(2, 1, 4));
        b.idle("a wrong SEAL", 2, 0, Wire.with(right, right.length - 1, Wire.row(right[right.length - 1] ^ 1)));
        Check.due("counted", b.x.wrong(2), 1);
        b.idle("a row of one byte", 2, 0, 1);
        Check.due("counted", b.x.wrong(2), 2);
        Check.due("not elsewhere", b.x.wrong(0) + b.x.wrong(1), 0);
    }

    private static int[] numbered(int n) {
        return Wire.request(KEY, n, 50 + n, 1, -1, identity(0, BOTH));
    }

    private static void latestFourAnswers() {
        Check.says("If it is one of the latest four that it answered ..., the same answer is sent again");
        Bench b = bench();
        int[][] answers = new int[5][];
        for (int n = 0; n < 4; n++) {
            b.bring(2, 0, numbered(n));
            answers[n] = b.latest();
        }
        for (int n = 3; n >= 0; n--) {
            b.bring(2, 0, numbered(n));
            Check.bytes("the same answer", b.latest(), answers[n]);
        }
        Check.bytes("no session and no random more", b.view().server(0), 1, 4, 4, 4);
        Check.due("but all were sent", b.waiting(), 8);
        b.bring(2, 0, numbered(4));
        answers[4] = b.latest();
        for (int n = 1; n < 5; n++) {
            b.bring(2, 0, numbered(n));
            Check.bytes("one of the latest four", b.latest(), answers[n]);
        }
        Check.due("five began", b.x.server(0, 2), 5);
        b.bring(2, 0, numbered(0));
        Check.due("the fifth latest is answered anew", b.x.server(0, 2), 6);
        b.bring(2, 0, numbered(2));
        Check.due("2 is still one of the latest four", b.x.server(0, 2), 6);
        b.bring(2, 0, numbered(1));
        Check.due("1 is not any more", b.x.server(0, 2), 7);
    }

    private static void idAndAuthenticatorBoth() {
        Check.says("by ID and AUTHENTICATOR (both)");
        Bench b = bench();
        b.bring(2, 0, Wire.request(KEY, 7, 70, 1, -1, identity(0, BOTH)));
        int[] first = b.latest();
        b.bring(2, 0, Wire.request(KEY, 7, 71, 1, -1, identity(0, BOTH)));
        Check.due("the ID alone", b.x.server(0, 2), 2);
        b.bring(2, 0, Wire.request(KEY, 8, 70, 1, -1, identity(0, BOTH)));
        Check.due("the AUTHENTICATOR alone", b.x.server(0, 2), 3);
        b.bring(2, 0, Wire.request(KEY, 7, 70, 2, 9, Wire.packet(3, 3)));
        Check.bytes("both, whatever else it has", b.latest(), first);
        Check.due("nothing more began", b.x.server(0, 2), 3);
        b.bring(2, 0, Wire.with(Wire.request(KEY, 7, 70, 1, -1, identity(0, BOTH)), 22, Wire.row(0)));
        Check.due("but it must be accepted", b.x.wrong(2), 1);
    }

    private static void noLaterByThat() {
        Check.says("the same answer is sent again (and it is no later by that)");
        Bench b = bench();
        for (int n = 0; n < 4; n++) {
            b.bring(2, 0, numbered(n));
        }
        b.bring(2, 0, numbered(0));
        b.bring(2, 0, numbered(0));
        b.bring(2, 0, numbered(4));
        Check.due("five began", b.x.server(0, 2), 5);
        b.bring(2, 0, numbered(1));
        Check.due("the second is kept", b.x.server(0, 2), 5);
        b.bring(2, 0, numbered(0));
        Check.due("the first is not", b.x.server(0, 2), 6);
    }

    private static void whateverWasAnswered() {
        Check.says("it answered (with whatever)");
        Bench b = bench();
        int[] reject = Wire.request(KEY, 7, 7, 1, -1, identity(0, 0));
        b.bring(2, 0, reject);
        int[] first = b.latest();
        b.x.user(0, 1, 1);
        b.bring(2, 0, reject);
        Check.bytes("a REJECT", b.latest(), first);
        Check.due("no session began", b.x.server(0, 2), 0);
        ask(b, -1, identity(0, CHALLENGER));
        int[] accept = Wire.request(KEY, 8, 8, 1, 0, met(1, 11, 0));
        b.bring(2, 0, accept);
        int[] second = b.latest();
        Check.due("an ACCEPT", second[0], 2);
        b.bring(2, 0, accept);
        Check.bytes("an ACCEPT again, though the session is gone", b.latest(), second);
        int[] request = Wire.request(KEY, 9, 9, 1, -1, identity(0, CHALLENGER));
        b.bring(2, 0, request);
        int[] third = b.latest();
        b.bring(2, 0, request);
        Check.bytes("a REQUEST", b.latest(), third);
    }

    private static void answersAreTheServersOwn() {
        Check.says("one of the latest four that it answered; n randoms were made by server s before");
        Bench b = bench();
        b.bring(2, 0, numbered(0));
        b.bring(2, 1, numbered(0));
        Check.bytes("server 0", b.view().server(0), 1, 1, 1, 1);
        Check.bytes("server 1", b.view().server(1), 1, 1, 1, 1);
        int[] request = Wire.packet(1, 1, Wire.cat(Wire.row(4), Wire.four(random(33, 1, 0))));
        Check.bytes("its own answer", b.latest(), Wire.answer(KEY, 11, 0, 50, 0, request));
        Check.due("its place", b.x.message(1, 1), 1);
    }

    private static void oneByteOfData() {
        Check.says("A RESPONSE of type 1 with one byte of data");
        rejected("no byte", bench(), -1, Wire.packet(2, 0, 1));
        rejected("two bytes", bench(), -1, Wire.packet(2, 0, 1, BOTH, BOTH));
        Bench b = bench();
        asked("one byte", b, -1, identity(0, BOTH), 0, challenge(33, 0));
        rejected("a REQUEST of type 1", b, -1, Wire.packet(1, 0, 1, BOTH));
        Check.bytes("one session", b.view().server(0), 1, 1, 1, 1);
    }

    private static void knownUsers() {
        Check.says("which is a user that is known");
        Bench b = new Bench(KEY);
        for (int u = 0; u < 8; u++) {
            rejected("not known " + u, b, -1, identity(0, u));
        }
        b.x.user(0, 5, 1);
        b.x.user(7, 6, 1);
        asked("user 0", b, -1, identity(0, 0), 0, challenge(5, 0));
        asked("user 7", b, -1, identity(0, 7), 1, challenge(6, 1));
        for (int u : new int[] {1, 6, 8, 9, 128, 255}) {
            rejected("not known " + u, b, -1, identity(0, u));
        }
        b.x.user(3, 0, 1);
        asked("a key may be 0", b, -1, identity(0, 3), 2, challenge(0, 2));
    }

    private static void knownToBothServers() {
        Check.says("USERS 0 .. 7 are known to both servers");
        for (int u = 0; u < 8; u++) {
            Bench b = new Bench(KEY);
            b.x.user(u, 40 + u, 1);
            for (int s = 0; s < 2; s++) {
                int[] data = Wire.cat(Wire.row(4), Wire.four(random(40 + u, s, 0)));
                Check.bytes("user " + u + " at server " + s, ask(b, s, -1, identity(0, u)), due(11, 0, Wire.packet(1, 1, data)));
            }
        }
    }

    private static void sessionNumbers() {
        Check.says("a new session, whose number is how many began at this server before");
        Bench b = bench();
        for (int n = 0; n < 6; n++) {
            asked("session " + n, b, -1, identity(0, CHALLENGER), n, challenge(11, n));
            Check.due("so many began", b.x.server(0, 2), n + 1);
        }
    }

    private static void firstMethod() {
        Check.says("CHALLENGE begins if it is among the user's methods, else MUTUAL");
        Bench b = bench();
        asked("CHALLENGE", b, -1, identity(0, CHALLENGER), 0, challenge(11, 0));
        asked("MUTUAL", b, -1, identity(0, PROVER), 1, mutual(22, 1));
        asked("both", b, -1, identity(0, BOTH), 2, challenge(33, 2));
    }

    private static void tokenOfSession() {
        Check.says("where the datagram has as TOKEN (highest byte first) the number of a session");
        Bench b = bench();
        ask(b, -1, identity(0, CHALLENGER));
        ask(b, -1, identity(0, CHALLENGER));
        rejected("no TOKEN", b, -1, met(1, 11, 0));
        for (int token : new int[] {2, 255, 256, 257, 65535}) {
            rejected("TOKEN " + token, b, token, met(1, 11, 0));
        }
        Check.due("both sessions stay", b.x.server(0, 1), 2);
        accepted("TOKEN 1", b, 1, met(1, 11, 1));
        accepted("TOKEN 0", b, 0, met(1, 11, 0));
        rejected("it is gone", b, 0, met(1, 11, 0));
    }

    private static void awaitedId() {
        Check.says("and the id is the one that this awaits");
        for (int id : new int[] {4, 5, 7}) {
            Bench b = bench();
            ask(b, -1, identity(5, CHALLENGER));
            rejected("id " + id, b, 0, met(id, 11, 0));
            Check.due("the session is gone", b.x.server(0, 1), 0);
        }
        Bench b = bench();
        ask(b, -1, identity(5, CHALLENGER));
        accepted("id 6", b, 0, met(6, 11, 0));
        b = proven();
        rejected("the id that it awaited before", b, 0, Wire.packet(2, 8, lastProof()));
    }

    private static void idsWrapAround() {
        Check.says("REQUESTS have the id of the packet looked at and 1 (mod 256), which the session awaits now");
        Bench b = bench();
        asked("254 and 1", b, -1, identity(254, CHALLENGER), 0, challenge(11, 0));
        Check.due("is 255", b.latest()[14], 255);
        accepted("it awaits 255", b, 0, met(255, 11, 0));
        asked("255 and 1", b, -1, identity(255, CHALLENGER), 1, challenge(11, 1));
        Check.due("is 0", b.latest()[14], 0);
        accepted("it awaits 0", b, 1, met(0, 11, 1));
        ask(b, -1, identity(254, BOTH));
        asked("by a refusal too", b, 2, Wire.packet(2, 255, 3, 51), 2, mutual(33, 3));
        int random = random(33, 0, 3);
        asked("by a proof", b, 2, Wire.packet(2, 0, firstProof(33, random, 6)), 2, proof(3, 33, 6, random));
    }

    private static void refusalOfOneByte() {
        Check.says("of type 3 with one byte of data");
        for (int[] content : new int[][] {{3}, {3, 51, 51}, {3, 51, 0}}) {
            Bench b = bench();
            ask(b, -1, identity(0, BOTH));
            rejected((content.length - 1) + " bytes", b, 0, Wire.packet(2, 1, content));
            Check.due("the session is gone", b.x.server(0, 1), 0);
        }
        Bench b = bench();
        ask(b, -1, identity(0, BOTH));
        asked("one byte", b, 0, Wire.packet(2, 1, 3, 51), 0, mutual(33, 1));
        Check.bytes("the same session, a second random", b.view().server(0), 1, 1, 1, 2);
    }

    private static void refusalNamesAMethod() {
        Check.says("4 or 51, which is a method of the user's");
        for (int wanted : new int[] {0, 1, 2, 3, 5, 50, 52, 255}) {
            Bench b = bench();
            ask(b, -1, identity(0, BOTH));
            rejected("wanted " + wanted, b, 0, Wire.packet(2, 1, 3, wanted));
        }
        Bench b = bench();
        ask(b, -1, identity(0, CHALLENGER));
        rejected("51, not the user's", b, 0, Wire.packet(2, 1, 3, 51));
        ask(b, -1, identity(0, PROVER));
        rejected("4, not the user's", b, 1, Wire.packet(2, 1, 3, 4));
    }

    private static void methodsOfTheUserNow() {
        Check.says("Keys and methods are those that the user has now");
        Bench b = bench();
        ask(b, -1, identity(0, CHALLENGER));
        b.x.user(CHALLENGER, 11, 2);
        asked("51 is the user's now", b, 0, Wire.packet(2, 1, 3, 51), 0, mutual(11, 1));
        ask(b, -1, identity(0, BOTH));
        b.x.user(BOTH, 33, 1);
        rejected("51 is the user's no more", b, 1, Wire.packet(2, 1, 3, 51));
        ask(b, -1, identity(0, PROVER));
        b.x.user(PROVER, 22, 3);
        asked("4 is the user's now", b, 2, Wire.packet(2, 1, 3, 4), 2, challenge(22, 4));
        b.x.user(PROVER, 22, 2);
        accepted("a method that began goes on", b, 2, met(2, 22, 4));
    }

    private static void methodThatBegan() {
        Check.says("that did not begin in this session: that begins");
        Bench b = bench();
        ask(b, -1, identity(0, BOTH));
        rejected("CHALLENGE began", b, 0, Wire.packet(2, 1, 3, 4));
        ask(b, -1, identity(0, BOTH));
        asked("MUTUAL did not", b, 1, Wire.packet(2, 1, 3, 51), 1, mutual(33, 2));
        rejected("now it did", b, 1, Wire.packet(2, 2, 3, 51));
        ask(b, -1, identity(0, BOTH));
        ask(b, 2, Wire.packet(2, 1, 3, 51));
        rejected("CHALLENGE began earlier", b, 2, Wire.packet(2, 2, 3, 4));
        ask(b, -1, identity(0, BOTH));
        asked("in another session it did not", b, 3, Wire.packet(2, 1, 3, 51), 3, mutual(33, 6));
    }

    private static void challengeOfFourBytes() {
        Check.says("CHALLENGE: type 4 with 4 bytes of data");
        int[] right = met(1, 11, 0);
        int[] shorter = java.util.Arrays.copyOf(right, 7);
        int[][] packets = {Wire.packet(2, 1, 4), Wire.with(shorter, 2, Wire.row(7)),
            Wire.with(Wire.cat(right, Wire.row(0)), 2, Wire.row(9))};
        for (int[] packet : packets) {
            Bench b = bench();
            ask(b, -1, identity(0, CHALLENGER));
            rejected((packet.length - 4) + " bytes", b, 0, packet);
        }
        Bench b = bench();
        ask(b, -1, identity(0, CHALLENGER));
        accepted("4 bytes", b, 0, right);
    }

    private static void challengeMustBeRight() {
        Check.says("HASH of the id, the user's key and the random: ACCEPT");
        int[] right = met(1, 11, 0);
        for (int i = 4; i < 8; i++) {
            Bench b = bench();
            ask(b, -1, identity(0, CHALLENGER));
            rejected("byte " + i + " altered", b, 0, Wire.with(right, i, Wire.row(right[i] ^ 1)));
        }
        int[][] packets = {Wire.with(met(2, 11, 0), 1, Wire.row(1)), met(1, 12, 0), met(1, 11, 1)};
        for (int[] packet : packets) {
            Bench b = bench();
            ask(b, -1, identity(0, CHALLENGER));
            rejected("of another id, key or random", b, 0, packet);
        }
    }

    private static void firstProofOfNineBytes() {
        Check.says("type 51 with 9 bytes of data: 2, an int THEIRS, MAC of the key and (2, random, THEIRS)");
        int[] right = firstProof(22, random(22, 0, 0), 5);
        int[][] contents = {{51}, {51, 2}, java.util.Arrays.copyOf(right, 9), Wire.cat(right, Wire.row(0)),
            Wire.with(right, 1, Wire.row(1)), Wire.with(right, 1, Wire.row(3)), Wire.with(right, 1, Wire.row(0))};
        for (int[] content : contents) {
            rejected((content.length - 1) + " bytes", proving(), 0, Wire.packet(2, 8, content));
        }
        Bench b = proving();
        asked("9 bytes", b, 0, Wire.packet(2, 8, right), 0, proof(3, 22, 5, random(22, 0, 0)));
        Check.bytes("no random more", b.view().server(0), 1, 1, 1, 1);
    }

    private static void firstProofMustBeRight() {
        Check.says("MAC of the key and (2, random, THEIRS): a REQUEST of type 51 is sent");
        int random = random(22, 0, 0);
        int[] right = firstProof(22, random, 5);
        for (int i = 2; i < 10; i++) {
            rejected("byte " + i + " altered", proving(), 0, Wire.packet(2, 8, Wire.with(right, i, Wire.row(right[i] ^ 128))));
        }
        int swapped = Wire.mac(22, Wire.row(2), Wire.four(5), Wire.four(random));
        int[] content = Wire.cat(Wire.row(51, 2), Wire.four(5), Wire.four(swapped));
        rejected("in the wrong order", proving(), 0, Wire.packet(2, 8, content));
        rejected("of another key", proving(), 0, Wire.packet(2, 8, firstProof(23, random, 5)));
        for (int theirs : new int[] {0, -1, 0x80FF0102}) {
            asked("THEIRS " + theirs, proving(), 0, Wire.packet(2, 8, firstProof(22, random, theirs)), 0,
                proof(3, 22, theirs, random));
        }
    }

    private static void lastProofOfFiveBytes() {
        Check.says("MUTUAL, if it was: 5 bytes: 4 and MAC of the key and (4, random, THEIRS)");
        int[] right = lastProof();
        int[][] contents = {{51}, {51, 4}, java.util.Arrays.copyOf(right, 5), Wire.cat(right, Wire.row(0)),
            Wire.with(right, 1, Wire.row(3)), Wire.with(right, 1, Wire.row(5)), Wire.with(right, 1, Wire.row(2))};
        for (int[] content : contents) {
            Bench b = proven();
            rejected((content.length - 1) + " bytes", b, 0, Wire.packet(2, 9, content));
            Check.due("the session is gone", b.x.server(0, 1), 0);
        }
        Bench b = proven();
        accepted("5 bytes", b, 0, Wire.packet(2, 9, right));
        Check.due("the session is gone", b.x.server(0, 1), 0);
    }

    private static void lastProofMustBeRight() {
        Check.says("4 and MAC of the key and (4, random, THEIRS): ACCEPT");
        int[] right = lastProof();
        for (int i = 2; i < 6; i++) {
            rejected("byte " + i + " altered", proven(), 0, Wire.packet(2, 9, Wire.with(right, i, Wire.row(right[i] ^ 1))));
        }
        int random = random(22, 0, 0);
        rejected("in the wrong order", proven(), 0, Wire.packet(2, 9, proof(4, 22, 5, random)));
        rejected("of another key", proven(), 0, Wire.packet(2, 9, proof(4, 21, random, 5)));
        rejected("of another THEIRS", proven(), 0, Wire.packet(2, 9, proof(4, 22, random, 0)));
    }

    private static void proofsInTheirOrder() {
        Check.says("MUTUAL, if no proof was sent yet ... MUTUAL, if it was");
        int random = random(22, 0, 0);
        rejected("the last one first", proving(), 0, Wire.packet(2, 8, lastProof()));
        rejected("the last one first, of zeros", proving(), 0, Wire.packet(2, 8, proof(4, 22, random, 0)));
        rejected("the first one twice", proven(), 0, Wire.packet(2, 9, firstProof(22, random, 5)));
        Bench b = proven();
        ask(b, -1, identity(7, PROVER));
        ask(b, 1, Wire.packet(2, 8, firstProof(22, random(22, 0, 1), 6)));
        accepted("each session has its own THEIRS", b, 0, Wire.packet(2, 9, lastProof()));
        accepted("and its own random", b, 1, Wire.packet(2, 9, proof(4, 22, random(22, 0, 1), 6)));
        ask(b, -1, identity(7, PROVER));
        asked("a new session has sent no proof", b, 2, Wire.packet(2, 8, firstProof(22, random(22, 0, 2), 7)), 2,
            proof(3, 22, 7, random(22, 0, 2)));
    }

    private static void otherMethodsType() {
        Check.says("Of the session's method");
        Bench b = bench();
        ask(b, -1, identity(7, BOTH));
        rejected("51 while CHALLENGE", b, 0, Wire.packet(2, 8, firstProof(33, random(33, 0, 0), 5)));
        ask(b, -1, identity(7, BOTH));
        ask(b, 1, Wire.packet(2, 8, 3, 51));
        rejected("4 while MUTUAL", b, 1, met(9, 33, 2));
        ask(b, -1, identity(7, BOTH));
        ask(b, 2, Wire.packet(2, 8, 3, 51));
        asked("51 while MUTUAL", b, 2, Wire.packet(2, 9, firstProof(33, random(33, 0, 4), 5)), 2,
            proof(3, 33, 5, random(33, 0, 4)));
    }

    private static void keysOfNow() {
        Check.says("Keys ... are those that the user has now");
        Bench b = bench();
        ask(b, -1, identity(0, CHALLENGER));
        b.x.user(CHALLENGER, 12, 1);
        int hash = Wire.hash(Wire.row(1), Wire.four(12), Wire.four(random(11, 0, 0)));
        accepted("the new key", b, 0, Wire.packet(2, 1, Wire.cat(Wire.row(4), Wire.four(hash))));
        ask(b, -1, identity(0, CHALLENGER));
        b.x.user(CHALLENGER, 13, 1);
        rejected("the old key", b, 1, met(1, 12, 1));
        b = proving();
        b.x.user(PROVER, 24, 2);
        int random = random(22, 0, 0);
        asked("the new key", b, 0, Wire.packet(2, 8, firstProof(24, random, 5)), 0, proof(3, 24, 5, random));
        b.x.user(PROVER, 25, 2);
        accepted("the newest key", b, 0, Wire.packet(2, 9, proof(4, 25, random, 5)));
    }

    private static void randomsAreCounted() {
        Check.says("the int n (n randoms were made by server s before)");
        Bench b = bench();
        asked("the first", b, -1, identity(0, BOTH), 0, challenge(33, 0));
        asked("of another method", b, 0, Wire.packet(2, 1, 3, 51), 0, mutual(33, 1));
        rejected("none by a REJECT", b, -1, identity(0, 0));
        asked("of another user", b, -1, identity(0, CHALLENGER), 1, challenge(11, 2));
        Check.due("so many", b.x.server(0, 3), 3);
        Check.due("none at the other server", b.x.server(1, 3), 0);
    }

    private static void nothingElseIsRejected() {
        Check.says("REJECT being what is done when nothing else is said");
        int[][] packets = {Wire.packet(1, 1, 4), Wire.packet(1, 1, 1, BOTH), Wire.packet(3, 1), Wire.packet(4, 1),
            Wire.packet(2, 1, 0), Wire.packet(2, 1, 2, 51), Wire.packet(2, 1, 5), Wire.packet(2, 1, 50),
            Wire.packet(2, 1, 52), Wire.packet(2, 1, 255)};
        for (int[] packet : packets) {
            Bench b = bench();
            ask(b, -1, identity(0, BOTH));
            rejected(java.util.Arrays.toString(packet), b, 0, packet);
            Check.due("the session is gone", b.x.server(0, 1), 0);
            Check.due("it is not wrong", b.x.wrong(2), 0);
        }
    }

    private static void acceptEndsSession() {
        Check.says("ACCEPT: CODE 2 and a SUCCESS, ... with the id of the packet looked at, without a TOKEN; the session is gone");
        for (int id : new int[] {0, 255}) {
            Bench b = bench();
            ask(b, -1, identity(id + 255 & 255, CHALLENGER));
            ask(b, -1, identity(id + 255 & 255, CHALLENGER));
            accepted("id " + id, b, 0, met(id, 11, 0));
            Check.due("the other session stays", b.x.server(0, 1), 1);
            rejected("once alone", b, 0, met(id, 11, 0));
            accepted("the other", b, 1, met(id, 11, 1));
        }
    }

    private static void rejectEndsSessionOfToken() {
        Check.says("the session (that of the TOKEN, if there is one, with any REJECT) is gone");
        int[][] packets = {Wire.packet(3, 9), identity(9, 0), Wire.packet(2, 9, 1), met(1, 12, 0), met(2, 11, 0)};
        for (int[] packet : packets) {
            Bench b = bench();
            ask(b, -1, identity(0, CHALLENGER));
            ask(b, -1, identity(0, CHALLENGER));
            rejected("without TOKEN", b, -1, packet);
            Check.due("no session goes without TOKEN", b.x.server(0, 1), 2);
            rejected("with a TOKEN of none", b, 2, packet);
            Check.due("nor with a TOKEN of none", b.x.server(0, 1), 2);
            rejected("with its TOKEN", b, 0, packet);
            Check.due("it goes", b.x.server(0, 1), 1);
            accepted("the other stays", b, 1, met(1, 11, 1));
        }
    }

    private static void sessionNamedByIdentityStays() {
        Check.says("a session that a RESPONSE of type 1 names as TOKEN stays beside the new one");
        Bench b = bench();
        ask(b, -1, identity(0, CHALLENGER));
        asked("a new one", b, 0, identity(1, CHALLENGER), 1, challenge(11, 1));
        Check.due("two", b.x.server(0, 1), 2);
        accepted("the old one awaits its id still", b, 0, met(1, 11, 0));
        accepted("the new one", b, 1, met(2, 11, 1));
    }

    private static void fourSessions() {
        Check.says("It has at most four SESSIONS (when a fifth begins the oldest is gone)");
        for (int more = 0; more < 3; more++) {
            Bench b = bench();
            for (int n = 0; n < 4 + more; n++) {
                ask(b, -1, identity(0, CHALLENGER));
                Check.due("so many", b.x.server(0, 1), Math.min(4, n + 1));
            }
            for (int n = 0; n < more; n++) {
                rejected("session " + n + " is gone", b, n, met(1, 11, n));
            }
            Check.due("the others stay", b.x.server(0, 1), 4);
            for (int n = more; n < 4 + more; n++) {
                accepted("session " + n + " is there", b, n, met(1, 11, n));
            }
            Check.due("none is left", b.x.server(0, 1), 0);
        }
    }

    private static void oldestByItsBeginning() {
        Check.says("when a fifth begins the oldest is gone (also if it was used latest)");
        Bench b = bench();
        for (int n = 0; n < 4; n++) {
            ask(b, -1, identity(0, BOTH));
        }
        ask(b, 0, Wire.packet(2, 1, 3, 51));
        ask(b, 0, identity(0, BOTH));
        rejected("session 0", b, 0, Wire.packet(2, 2, firstProof(33, random(33, 0, 4), 5)));
        accepted("session 1", b, 1, met(1, 33, 1));
        accepted("session 4", b, 4, met(1, 33, 5));
    }

    private static void roomOfEndedSession() {
        Check.says("at most four SESSIONS (one that is gone leaves its room)");
        for (int gone = 0; gone < 4; gone++) {
            Bench b = bench();
            for (int n = 0; n < 4; n++) {
                ask(b, -1, identity(0, CHALLENGER));
            }
            accepted("session " + gone, b, gone, met(1, 11, gone));
            ask(b, -1, identity(0, CHALLENGER));
            Check.due("four", b.x.server(0, 1), 4);
            ask(b, -1, identity(0, CHALLENGER));
            int oldest = gone == 0 ? 1 : 0;
            rejected("the oldest of the others", b, oldest, met(1, 11, oldest));
            for (int n = 0; n < 6; n++) {
                if (n != gone && n != oldest) {
                    accepted("session " + n, b, n, met(1, 11, n));
                }
            }
        }
    }

    private static void answersForm() {
        Check.says("Answers have the ID of the datagram and no NAME.");
        for (int id : new int[] {0, 1, 255}) {
            Bench b = bench();
            b.bring(2, 1, Wire.request(KEY, id, 5, 1, 3, identity(0, CHALLENGER)));
            Check.first("a REQUEST", b.latest(), 11, id, 27);
            Check.due("its first attribute is the TOKEN", b.latest()[7], 24);
            Check.due("its way", b.x.message(0, 0), 3);
            Check.due("its place", b.x.message(0, 1), 1);
            b.bring(2, 1, Wire.request(KEY, id, 6, 1, 0, Wire.packet(3, 0)));
            Check.first("a REJECT", b.latest(), 3, id, 18);
            Check.due("its first attribute is the piece", b.latest()[7], 79);
        }
    }
}
