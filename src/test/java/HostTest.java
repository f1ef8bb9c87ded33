/** What a host does with what promise 7 (pass) delivers to it, looked at by promises 16 (station) and 18 (wrong). */
public final class HostTest {
    private static final int KEY = 0xCAFE1234;

    public static void main(String[] args) {
        frames();
        identity();
        repeated();
        challenge();
        mutual();
        wrongProofs();
        refusals();
        results();
        withoutUser();
        Check.end();
    }

    private static Bench with(int methods) {
        Bench b = new Bench(1);
        b.x.host(2, 6, KEY, methods);
        return b;
    }

    private static int[] request(int id, int... typeAndData) {
        return Wire.frame(Wire.packet(1, id, typeAndData));
    }

    private static int[] response(int id, int... typeAndData) {
        return Wire.frame(Wire.packet(2, id, typeAndData));
    }

    private static void none(String what, Bench b, int... frame) {
        String before = b.state();
        b.bring(1, 2, frame);
        Check.yes(what + " does nothing", before.equals(b.state()));
    }

    private static void frames() {
        Bench b = with(3);
        int[][] wrongs = {
            {0}, {3}, {255}, {1, 0}, {2, 1, 0, 3}, {0, 3, 0}, {0, 1, 0, 3}, {0, 2, 0, 3}, {0, 3, 0, 4, 1},
            {0, 4, 0, 4, 1}, {0, 3, 0, 4}, {0, 0, 0, 3}, {0, 5, 0, 3}, {0, 5, 0, 4, 1}, {0, 1, 0, 5, 1},
            {0, 1, 0, 3, 1}, {1, 1, 0, 4, 1}, Wire.frame(Wire.packet(1, 0, new int[18]))};
        for (int[] frame : wrongs) {
            b.bring(1, 2, frame);
        }
        Check.due("WRONG frames", b.x.wrong(1), wrongs.length);
        Check.due("not at the switch", b.x.wrong(0), 0);
        Check.due("nothing is sent", b.x.waiting(), 0);
        none("START", b, 1);
        none("LOGOFF", b, 2);
        none("a response", b, response(0, 1, 1));
        none("an unknown type", b, request(0, 2));
        int[] longest = new int[17];
        longest[0] = 1;
        b.bring(1, 2, Wire.frame(Wire.packet(1, 8, longest)));
        Check.bytes("20 bytes are a packet", b.latest(), response(8, 1, 6));
    }

    private static void identity() {
        Bench b = with(0);
        b.bring(1, 2, request(255, 1));
        Check.bytes("its user", b.latest(), response(255, 1, 6));
        Check.due("way", b.x.message(0, 0), 0);
        Check.due("place", b.x.message(0, 1), 2);
        Check.due("latest", b.x.station(2, 2), 255);
        b.bring(1, 2, request(4, 1, 9, 9));
        Check.bytes("with data too", b.latest(), response(4, 1, 6));
    }

    private static void repeated() {
        Bench b = with(1);
        b.bring(1, 2, request(7, 4, 1, 2, 3, 4));
        int[] first = b.latest();
        b.bring(1, 2, request(7, 1));
        Check.bytes("sent again, whatever is asked", b.latest(), first);
        Check.due("proof stays", b.x.station(2, 1), 1);
        b.bring(1, 2, request(7, 99));
        Check.due("three wait", b.x.waiting(), 3);
        none("another id, unknown type", b, request(8, 99));
        b.bring(1, 2, request(8, 1));
        Check.bytes("a new one", b.latest(), response(8, 1, 6));
        Check.due("no proof any more", b.x.station(2, 1), 0);
        b.bring(1, 2, request(7, 4, 1, 2, 3, 4));
        Check.bytes("only the latest is kept", b.latest(), first);
    }

    private static void challenge() {
        Bench b = with(1);
        b.bring(1, 2, request(7, 4, 1, 2, 3, 4));
        int due = Wire.hash(Wire.row(7), Wire.four(KEY), Wire.row(1, 2, 3, 4));
        Check.bytes("HASH of id, key and random", b.latest(), response(7, Wire.cat(Wire.row(4), Wire.four(due))));
        Check.due("proof", b.x.station(2, 1), 1);
        Check.due("no random of its own", b.x.station(2, 4), 0);
        none("3 bytes", b, request(8, 4, 1, 2, 3));
        none("5 bytes", b, request(8, 4, 1, 2, 3, 4, 5));
        none("no bytes", b, request(8, 4));
    }

    private static int[] proof(int step, int key, int first, int second) {
        return Wire.cat(Wire.row(51, step), Wire.four(Wire.mac(key, Wire.row(step), Wire.four(first), Wire.four(second))));
    }

    private static void mutual() {
        Bench b = with(2);
        int theirs = 0x80FF0102;
        b.bring(1, 2, request(10, Wire.cat(Wire.row(51, 1), Wire.four(theirs))));
        int ours = Wire.hash(Wire.four(KEY), Wire.row(2), Wire.four(0));
        int mac = Wire.mac(KEY, Wire.row(2), Wire.four(theirs), Wire.four(ours));
        Check.bytes("OURS and a MAC", b.latest(),
            response(10, Wire.cat(Wire.row(51, 2), Wire.four(ours), Wire.four(mac))));
        Check.due("no proof yet", b.x.station(2, 1), 0);
        Check.due("one random", b.x.station(2, 4), 1);
        b.bring(1, 2, request(11, proof(3, KEY, ours, theirs)));
        Check.bytes("the last MAC", b.latest(), response(11, proof(4, KEY, theirs, ours)));
        Check.due("proof", b.x.station(2, 1), 1);
        b.bring(1, 2, request(12, 1));
        Check.due("a type 1 takes the proof", b.x.station(2, 1), 0);
        b.bring(1, 2, request(13, proof(3, KEY, ours, theirs)));
        Check.due("but not THEIRS", b.x.station(2, 1), 1);
        b.bring(1, 2, request(14, 51, 1, 0, 0, 0, 5));
        Check.due("a new random takes the proof", b.x.station(2, 1), 0);
        Check.due("the second random", Wire.number(b.latest(), 6), Wire.hash(Wire.four(KEY), Wire.row(2), Wire.four(1)));
        none("the old proof", b, request(15, proof(3, KEY, ours, theirs)));
    }

    private static void wrongProofs() {
        Bench b = with(3);
        none("a proof without THEIRS", b, request(1, proof(3, KEY, 0, 0)));
        b.bring(1, 2, request(10, 51, 1, 0, 0, 0, 9));
        int ours = Wire.hash(Wire.four(KEY), Wire.row(2), Wire.four(0));
        none("another key", b, request(11, proof(3, KEY + 1, ours, 9)));
        none("the wrong order", b, request(11, proof(3, KEY, 9, ours)));
        none("first byte 2", b, request(11, proof(2, KEY, ours, 9)));
        none("first byte 0", b, request(11, 51, 0, 0, 0, 0, 9));
        none("4 bytes", b, request(11, 51, 1, 0, 0, 9));
        none("6 bytes", b, request(11, 51, 1, 0, 0, 0, 9, 0));
        none("a byte behind the proof", b, request(11, Wire.cat(proof(3, KEY, ours, 9), Wire.row(0))));
        Check.due("one random alone", b.x.station(2, 4), 1);
    }

    private static void refusals() {
        int[] wanted = {0, 4, 51};
        for (int methods = 0; methods < 3; methods++) {
            Bench b = with(methods);
            if (methods != 1) {
                b.bring(1, 2, request(3, 4, 1, 2, 3, 4));
                Check.bytes("refuses 4", b.latest(), response(3, 3, wanted[methods]));
                b.bring(1, 2, request(4, 4));
                Check.bytes("refuses 4 without data", b.latest(), response(4, 3, wanted[methods]));
            }
            if (methods != 2) {
                b.bring(1, 2, request(5, 51, 1, 2, 3, 4, 5));
                Check.bytes("refuses 51", b.latest(), response(5, 3, wanted[methods]));
                b.bring(1, 2, request(6, 51, 77));
                Check.bytes("refuses 51 with what data", b.latest(), response(6, 3, wanted[methods]));
                Check.due("is the latest", b.x.station(2, 2), 6);
            }
        }
        Bench b = with(1);
        b.bring(1, 2, request(3, 4, 1, 2, 3, 4));
        b.bring(1, 2, request(4, 51));
        Check.due("a refusal leaves the proof", b.x.station(2, 1), 1);
    }

    private static void results() {
        Bench b = with(1);
        b.bring(1, 2, Wire.frame(Wire.packet(3, 0)));
        Check.due("SUCCESS without proof", b.x.station(2, 0), 0);
        b.bring(1, 2, request(3, 4, 1, 2, 3, 4));
        b.bring(1, 2, Wire.frame(Wire.packet(3, 99)));
        Check.due("SUCCESS with proof", b.x.station(2, 0), 1);
        Check.due("proof stays", b.x.station(2, 1), 1);
        b.bring(1, 2, Wire.frame(Wire.packet(4, 99)));
        Check.due("FAILURE", b.x.station(2, 0), 2);
        Check.due("takes the proof", b.x.station(2, 1), 0);
        Check.due("not the latest", b.x.station(2, 2), 3);
        b.bring(1, 2, Wire.frame(Wire.packet(3, 99)));
        Check.due("SUCCESS without proof leaves it", b.x.station(2, 0), 2);
    }

    private static void withoutUser() {
        Bench b = with(3);
        b.x.host(2, -1, KEY, 3);
        none("a request", b, request(1, 1));
        none("a WRONG frame", b, 7, 7);
        none("FAILURE", b, Wire.frame(Wire.packet(4, 0)));
        Check.due("not counted", b.x.wrong(1), 0);
    }
}
