/**
 * The term DATAGRAM: what is RIGHT, at a server (a request) and at the switch (an answer), and how it is made,
 * with its SEAL and its AUTHENTICATOR.
 */
public final class DatagramTest {
    private static final int KEY = 0x80706050;
    private static final int[] PACKET = Wire.packet(3, 0);
    private static final int[] NAME = Wire.name(1);
    private static final int[] TOKEN = Wire.token(5);
    private static final int[] PIECE = Wire.pieces(PACKET);
    private static final int[] SEAL = Wire.SEAL;

    public static void main(String[] args) {
        plain();
        lengthIsHowManyBytes();
        shorterThanItsHead();
        attributesEndWhereItEnds();
        sizeOfName();
        sizeOfToken();
        sizeOfPiece();
        sizeOfSeal();
        otherKinds();
        justOneSeal();
        atMostOneName();
        atMostOneToken();
        piecesAreOnePacket();
        anyOrder();
        asLongAsADraft();
        madeOfNameTokenPiecesSeal();
        piecesOfEightBytes();
        answersPieces();
        sealOfRequest();
        sealOfAnswer();
        authenticatorOfRequest();
        authenticatorOfAnswer();
        Check.end();
    }

    /** A datagram whose LENGTH is too large by this; the SEAL among the attributes that is to be right is the first. */
    private static int[] made(int code, int authenticator, int tooLarge, int[]... attributes) {
        int[] bare = Wire.bare(code, 0, authenticator, attributes);
        int[] row = Wire.with(bare, 2, Wire.row(bare.length + tooLarge & 255));
        int at = 7;
        for (int[] attribute : attributes) {
            if (attribute == SEAL) {
                return Wire.sealed(KEY, row, at);
            }
            at += attribute.length;
        }
        return row;
    }

    /** How many a server that this is brought to accepts. */
    private static int atServer(int... row) {
        Bench b = new Bench(KEY);
        b.bring(2, 0, row);
        int accepted = b.waiting();
        Check.due("what is not accepted is counted", b.x.wrong(2), 1 - accepted);
        Check.due("and nowhere else", b.x.wrong(0) + b.x.wrong(1), 0);
        return accepted;
    }

    /** How many a switch that has asked, by its first request, accepts. */
    private static int atSwitch(int... row) {
        Bench b = new Bench(KEY);
        b.query(2, 6);
        b.bring(3, 0, row);
        int accepted = b.x.port(2, 0) == 3 ? 1 : 0;
        Check.due("what is not accepted is counted", b.x.wrong(0), 1 - accepted);
        Check.due("and nowhere else", b.x.wrong(1) + b.x.wrong(2), 0);
        return accepted;
    }

    private static int[] request(int tooLarge, int[]... attributes) {
        return made(1, 0x01FF80FE, tooLarge, attributes);
    }

    private static int[] answer(int tooLarge, int[]... attributes) {
        int[] sealed = made(2, Wire.authenticator(KEY, 0), tooLarge, attributes);
        return Wire.authenticated(KEY, sealed);
    }

    private static void bothEnds(String what, int accepted, int[]... attributes) {
        Check.due(what + ", at a server", atServer(request(0, attributes)), accepted);
        Check.due(what + ", at the switch", atSwitch(answer(0, attributes)), accepted);
    }

    private static void plain() {
        Check.says("A DATAGRAM is a row of bytes: CODE, ID, LENGTH, an int AUTHENTICATOR, and ATTRIBUTES");
        bothEnds("a NAME, a piece and a SEAL", 1, NAME, PIECE, SEAL);
    }

    private static void lengthIsHowManyBytes() {
        Check.says("It is RIGHT if LENGTH is how many bytes it has");
        for (int tooLarge : new int[] {-16, -1, 0, 1, 200}) {
            int accepted = tooLarge == 0 ? 1 : 0;
            Check.due("by " + tooLarge, atServer(request(tooLarge, NAME, PIECE, SEAL)), accepted);
            Check.due("by " + tooLarge, atSwitch(answer(tooLarge, NAME, PIECE, SEAL)), accepted);
        }
        int[] longer = Wire.cat(request(0, NAME, PIECE, SEAL), Wire.row(0));
        Check.due("a byte behind it", atServer(longer), 0);
        longer = Wire.cat(answer(0, NAME, PIECE, SEAL), Wire.row(0));
        Check.due("a byte behind it", atSwitch(longer), 0);
    }

    private static void shorterThanItsHead() {
        Check.says("CODE, ID, LENGTH, an int AUTHENTICATOR");
        for (int size = 1; size <= 8; size++) {
            int[] row = java.util.Arrays.copyOf(Wire.row(1, 0, size), size);
            Check.due(size + " bytes", atServer(row), 0);
            Check.due(size + " bytes", atSwitch(row), 0);
        }
        bothEnds("no attributes", 0);
    }

    private static void attributesEndWhereItEnds() {
        Check.says("the attributes end where it ends");
        bothEnds("a KIND without SIZE behind them", 0, NAME, PIECE, SEAL, Wire.row(24));
        bothEnds("a byte of an attribute is not there", 0, NAME, PIECE, SEAL, Wire.row(24, 4, 0));
        bothEnds("all of it is there", 1, NAME, PIECE, SEAL, Wire.row(24, 4, 0, 0));
        bothEnds("a byte too many", 0, NAME, PIECE, SEAL, Wire.row(24, 4, 0, 0, 0));
        bothEnds("a byte of the last piece is not there", 0, NAME, SEAL, Wire.row(79, 6, 3, 0, 3));
        bothEnds("all of it is there", 1, NAME, SEAL, Wire.row(79, 5, 3, 0, 3));
        bothEnds("a byte of the packet is outside of the piece", 0, NAME, SEAL, Wire.row(79, 4, 3, 0, 3));
        for (int size : new int[] {0, 1, 128, 255}) {
            bothEnds("a last attribute of size " + size, 0, NAME, PIECE, SEAL, Wire.row(24, size, 0, 0));
            bothEnds("a first attribute of size " + size, 0, Wire.row(24, size, 0, 0), NAME, PIECE, SEAL);
        }
    }

    private static void sizeOfName() {
        Check.says("each is a NAME (kind 1, size 3)");
        bothEnds("size 2", 0, Wire.row(1, 2), PIECE, SEAL);
        bothEnds("size 3", 1, Wire.row(1, 3, 0), PIECE, SEAL);
        bothEnds("size 3", 1, Wire.row(1, 3, 255), PIECE, SEAL);
        bothEnds("size 4", 0, Wire.row(1, 4, 0, 0), PIECE, SEAL);
    }

    private static void sizeOfToken() {
        Check.says("a TOKEN (24, size 4)");
        bothEnds("size 3", 0, NAME, Wire.row(24, 3, 0), PIECE, SEAL);
        bothEnds("size 4", 1, NAME, Wire.row(24, 4, 0, 0), PIECE, SEAL);
        bothEnds("size 4", 1, NAME, Wire.row(24, 4, 255, 255), PIECE, SEAL);
        bothEnds("size 5", 0, NAME, Wire.row(24, 5, 0, 0, 0), PIECE, SEAL);
    }

    private static void sizeOfPiece() {
        Check.says("a PIECE (79, size 3 to 10)");
        bothEnds("size 2", 0, NAME, Wire.row(79, 2), PIECE, SEAL);
        bothEnds("size 2, behind the packet", 0, NAME, PIECE, Wire.row(79, 2), SEAL);
        bothEnds("size 3", 1, NAME, Wire.row(79, 3, 3), Wire.row(79, 3, 0), Wire.row(79, 3, 3), SEAL);
        for (int size = 4; size <= 13; size++) {
            int[] packet = Wire.packet(1, 0, new int[size - 3]);
            int[] piece = Wire.cat(Wire.row(79, size + 2), packet);
            Check.due("size " + (size + 2), atServer(request(0, NAME, piece, SEAL)), size <= 8 ? 1 : 0);
            Check.due("size " + (size + 2), continued(piece), size <= 8 ? 1 : 0);
        }
    }

    /** How many answers with CODE 11 and this piece a switch that has asked accepts. */
    private static int continued(int[] piece) {
        Bench b = new Bench(KEY);
        b.query(2, 6);
        b.bring(3, 0, Wire.authenticated(KEY, made(11, Wire.authenticator(KEY, 0), 0, piece, SEAL)));
        return b.x.port(2, 2);
    }

    private static void sizeOfSeal() {
        Check.says("or a SEAL (80, size 6)");
        bothEnds("size 6", 1, NAME, PIECE, SEAL);
        int[] five = {80, 5, 0, 0, 0};
        int[] seven = {80, 7, 0, 0, 0, 0, 0};
        int[] row = Wire.bare(1, 0, 9, NAME, PIECE, five);
        Check.due("size 5", atServer(Wire.with(row, row.length - 3, Wire.row(1, 2, 3))), 0);
        row = Wire.bare(1, 0, 9, NAME, PIECE, seven);
        Check.due("size 7", atServer(Wire.sealed(KEY, row, row.length - 7)), 0);
        row = Wire.bare(2, 0, Wire.authenticator(KEY, 0), PIECE, seven);
        Check.due("size 7", atSwitch(Wire.authenticated(KEY, Wire.sealed(KEY, row, row.length - 7))), 0);
        bothEnds("one of size 7 behind a right one", 0, NAME, PIECE, SEAL, seven);
        bothEnds("one of size 5 behind a right one", 0, NAME, PIECE, SEAL, five);
    }

    private static void otherKinds() {
        Check.says("each is a NAME ..., a TOKEN ..., a PIECE ... or a SEAL");
        for (int kind : new int[] {0, 2, 3, 23, 25, 78, 81, 128, 255}) {
            bothEnds("kind " + kind, 0, NAME, PIECE, SEAL, Wire.row(kind, 3, 0));
            bothEnds("kind " + kind, 0, NAME, PIECE, SEAL, Wire.row(kind, 4, 0, 0));
            bothEnds("kind " + kind, 0, NAME, PIECE, SEAL, Wire.row(kind, 6, 0, 0, 0, 0));
        }
    }

    private static void justOneSeal() {
        Check.says("there is just one SEAL");
        int[] second = SEAL.clone();
        bothEnds("none", 0, NAME, PIECE);
        bothEnds("one", 1, NAME, PIECE, SEAL);
        bothEnds("two, the first is right", 0, NAME, PIECE, SEAL, second);
        bothEnds("two, the second is right", 0, NAME, PIECE, second, SEAL);
    }

    private static void atMostOneName() {
        Check.says("at most one NAME");
        Check.due("none is RIGHT: the switch needs none", atSwitch(answer(0, PIECE, SEAL)), 1);
        Check.due("but a server accepts none without", atServer(request(0, PIECE, SEAL)), 0);
        bothEnds("one", 1, NAME, PIECE, SEAL);
        bothEnds("two", 0, NAME, NAME, PIECE, SEAL);
        bothEnds("two, not the same", 0, NAME, PIECE, SEAL, Wire.name(0));
        bothEnds("two, the first of them 0", 0, Wire.name(0), Wire.name(0), PIECE, SEAL);
    }

    private static void atMostOneToken() {
        Check.says("and one TOKEN");
        bothEnds("none", 1, NAME, PIECE, SEAL);
        bothEnds("one", 1, NAME, TOKEN, PIECE, SEAL);
        bothEnds("two", 0, NAME, TOKEN, TOKEN, PIECE, SEAL);
        bothEnds("two, not the same", 0, NAME, TOKEN, PIECE, SEAL, Wire.token(0));
        bothEnds("two, the first of them 0", 0, NAME, Wire.token(0), Wire.token(0), PIECE, SEAL);
    }

    private static void piecesAreOnePacket() {
        Check.says("all pieces' values one behind the other are a RIGHT packet");
        bothEnds("no piece", 0, NAME, SEAL);
        bothEnds("two pieces of one packet", 1, NAME, Wire.row(79, 4, 3, 9), Wire.row(79, 3, 3), SEAL);
        bothEnds("in the wrong order", 0, NAME, Wire.row(79, 3, 3), Wire.row(79, 4, 3, 9), SEAL);
        bothEnds("the second is not there", 0, NAME, Wire.row(79, 4, 3, 9), SEAL);
        bothEnds("two packets", 0, NAME, PIECE, PIECE, SEAL);
        bothEnds("a byte more", 0, NAME, PIECE, Wire.row(79, 3, 1), SEAL);
        bothEnds("a WRONG packet", 0, NAME, Wire.pieces(Wire.row(3, 0, 4)), SEAL);
        bothEnds("a WRONG packet", 0, NAME, Wire.pieces(Wire.row(5, 0, 3)), SEAL);
    }

    private static void anyOrder() {
        Check.says("each is a NAME ..., a TOKEN ..., a PIECE ... or a SEAL (in whatever order)");
        bothEnds("the SEAL first", 1, SEAL, PIECE, TOKEN, NAME);
        bothEnds("the SEAL amid the pieces", 1, Wire.row(79, 3, 3), SEAL, Wire.row(79, 3, 9), NAME, Wire.row(79, 3, 3));
    }

    private static void asLongAsADraft() {
        Check.says("A DATAGRAM is a row of bytes (as long as a draft can be)");
        int[] packet = Wire.packet(1, 9, new int[11]);
        int[] pieces = Wire.pieces(Wire.part(packet, 5));
        for (int i = 4; i >= 0; i--) {
            pieces = Wire.cat(Wire.row(79, 3, packet[i]), pieces);
        }
        int[] row = request(0, NAME, TOKEN, pieces, SEAL);
        Check.due("so many bytes", row.length, 48);
        Check.due("48 bytes", atServer(row), 1);
        Check.due("48 bytes, with LENGTH 47", atServer(request(-1, NAME, TOKEN, pieces, SEAL)), 0);
        Check.due("48 bytes, with LENGTH 49", atServer(request(1, NAME, TOKEN, pieces, SEAL)), 0);
    }

    /** Port 2 awaits a response to a request with id 30, and has this TOKEN or none. */
    private static Bench awaiting(int token) {
        Bench b = new Bench(KEY);
        b.query(2, 6);
        b.bring(3, 0, Wire.answer(KEY, 11, 0, Wire.authenticator(KEY, 0), token, Wire.packet(1, 30, 4)));
        b.loseAll();
        return b;
    }

    private static void madeOfNameTokenPiecesSeal() {
        Check.says("It is made with a NAME and a TOKEN, if it has such, then pieces ..., then the SEAL.");
        int[] response = Wire.packet(2, 30, 77);
        Bench b = awaiting(-1);
        b.bring(0, 2, Wire.frame(response));
        int[] made = b.latest();
        Check.bytes("without TOKEN", Wire.with(made, made.length - 4, new int[4]),
            Wire.cat(Wire.row(1, 1, 22), Wire.four(Wire.authenticator(KEY, 1)), Wire.row(1, 3, 6),
                Wire.row(79, 6, 2, 30, 4, 77), Wire.SEAL));
        for (int token : new int[] {0, 1, 255, 256, 65535}) {
            b = awaiting(token);
            b.bring(0, 2, Wire.frame(response));
            made = b.latest();
            Check.bytes("with TOKEN " + token, Wire.with(made, made.length - 4, new int[4]),
                Wire.cat(Wire.row(1, 1, 26), Wire.four(Wire.authenticator(KEY, 1)), Wire.row(1, 3, 6),
                    Wire.row(24, 4, token / 256, token % 256), Wire.row(79, 6, 2, 30, 4, 77), Wire.SEAL));
        }
    }

    private static void piecesOfEightBytes() {
        Check.says("pieces of 8 bytes each (the last one of what is left)");
        int[][] due = {{4}, {5}, {6}, {7}, {8}, {8, 1}, {8, 2}, {8, 3}, {8, 4}, {8, 5}, {8, 6}, {8, 7}, {8, 8},
            {8, 8, 1}, {8, 8, 2}, {8, 8, 3}, {8, 8, 4}};
        for (int[] sizes : due) {
            int total = java.util.Arrays.stream(sizes).sum();
            int[] content = new int[total - 3];
            for (int i = 0; i < content.length; i++) {
                content[i] = 200 + i;
            }
            int[] packet = Wire.packet(2, 30, content);
            int[] pieces = {};
            int from = 0;
            for (int size : sizes) {
                pieces = Wire.cat(pieces, Wire.row(79, size + 2), java.util.Arrays.copyOfRange(packet, from, from + size));
                from += size;
            }
            Bench b = awaiting(-1);
            b.bring(0, 2, Wire.frame(packet));
            int[] made = b.latest();
            Check.bytes(total + " bytes", java.util.Arrays.copyOfRange(made, 10, made.length - 6), pieces);
            Check.due("a server takes it", atServer(made), 1);
        }
    }

    private static void answersPieces() {
        Check.says("pieces of 8 bytes each (the last one of what is left): those of answers");
        Bench b = new Bench(KEY);
        b.x.user(1, 2, 1);
        b.x.user(2, 2, 2);
        b.bring(2, 0, Wire.request(KEY, 0, 1, 0, -1, Wire.packet(2, 0, 1, 1)));
        Check.first("8 bytes are one piece", Wire.part(b.latest(), 11), 79, 10, 1, 1, 8, 4);
        Check.due("and the SEAL is behind it", b.latest()[21], 80);
        b.bring(2, 0, Wire.request(KEY, 0, 2, 0, -1, Wire.packet(2, 0, 1, 2)));
        Check.first("9 bytes are two pieces", Wire.part(b.latest(), 11), 79, 10, 1, 1, 9, 51, 1);
        Check.first("the second of one byte", Wire.part(b.latest(), 21), 79, 3);
        Check.due("and the SEAL is behind it", b.latest()[24], 80);
        b.bring(2, 0, Wire.request(KEY, 0, 3, 0, -1, Wire.packet(2, 6, 1, 0)));
        Check.first("3 bytes, without NAME and TOKEN", Wire.part(b.latest(), 7), 79, 5, 4, 6, 3, 80, 6);
    }

    private static void sealOfRequest() {
        Check.says("The SEAL's value is MAC of the SHARED key and the datagram's bytes, with 0 for the value's four bytes");
        int[] right = request(0, NAME, TOKEN, PIECE, SEAL);
        Check.due("the right one", atServer(right), 1);
        for (int i = 0; i < right.length; i++) {
            for (int bit : new int[] {1, 128}) {
                Check.due("byte " + i + " altered", atServer(Wire.with(right, i, Wire.row(right[i] ^ bit))), 0);
            }
        }
        Check.due("of another key", atServer(Wire.request(KEY + 1, 0, 1, 1, -1, PACKET)), 0);
        int[] bare = Wire.bare(1, 0, 3, NAME, PIECE, Wire.row(80, 6, 1, 2, 3, 4));
        int[] of = Wire.with(bare, bare.length - 4, Wire.four(Wire.mac(KEY, bare)));
        Check.due("reckoned with other bytes than 0", atServer(of), 0);
        Check.due("without a seal's value", atServer(Wire.bare(1, 0, 3, NAME, PIECE, SEAL)), 0);
    }

    private static void sealOfAnswer() {
        Check.says("and in an answer with the request's AUTHENTICATOR for its own");
        int[] right = answer(0, TOKEN, PIECE, SEAL);
        Check.due("the right one", atSwitch(right), 1);
        for (int i = 0; i < right.length; i++) {
            for (int bit : new int[] {1, 128}) {
                Check.due("byte " + i + " altered", atSwitch(Wire.with(right, i, Wire.row(right[i] ^ bit))), 0);
            }
        }
        Check.due("of another request", atSwitch(Wire.answer(KEY, 2, 0, Wire.authenticator(KEY, 1), -1, PACKET)), 0);
        Check.due("of another key", atSwitch(Wire.answer(KEY - 1, 2, 0, Wire.authenticator(KEY, 0), -1, PACKET)), 0);
        int[] unsealed = Wire.bare(2, 0, Wire.authenticator(KEY, 0), PIECE, SEAL);
        Check.due("AUTHENTICATOR alone is right", atSwitch(Wire.authenticated(KEY, unsealed)), 0);
        int[] sealed = Wire.sealed(KEY, unsealed, unsealed.length - 6);
        Check.due("SEAL alone is right, the AUTHENTICATOR the request's", atSwitch(sealed), 0);
        int[] own = Wire.authenticated(KEY, unsealed);
        Check.due("sealed with its own", atSwitch(Wire.sealed(KEY, own, own.length - 6)), 0);
    }

    private static void authenticatorOfRequest() {
        Check.says("The AUTHENTICATOR of the n-th request of the switch (n = 0, 1, ..) is HASH of the key and the int n");
        Bench b = new Bench(KEY);
        for (int n = 0; n < 4; n++) {
            b.query(n, 6);
            Check.due("ID of request " + n, b.latest()[1], n);
            Check.due("AUTHENTICATOR of request " + n, Wire.number(b.latest(), 3), Wire.hash(Wire.four(KEY), Wire.four(n)));
        }
    }

    private static void authenticatorOfAnswer() {
        Check.says("of an answer HASH of its bytes (its SEAL as it is by then), with the request's AUTHENTICATOR for its own");
        Bench b = new Bench(KEY);
        b.bring(2, 1, Wire.request(KEY, 255, -2, 0, -1, Wire.packet(2, 8, 1, 0)));
        int[] bare = Wire.cat(Wire.row(3, 255, 18), Wire.four(-2), Wire.row(79, 5, 4, 8, 3, 80, 6));
        int[] sealed = Wire.cat(bare, Wire.four(Wire.mac(KEY, bare, new int[4])));
        int own = Wire.hash(sealed, Wire.four(KEY));
        Check.bytes("a REJECT", b.latest(), Wire.with(sealed, 3, Wire.four(own)));
    }
}
