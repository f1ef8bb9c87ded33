/**
 * The terms BYTES, INT, HASH and MAC. The numbers were reckoned outside of Java, so that the tests' own
 * writing of these terms (Wire) is tested by them too.
 */
public final class BytesTest {
    public static void main(String[] args) {
        publishedValues();
        requests();
        answers();
        challenges();
        mutualProofs();
        randomsOfServers();
        Check.end();
    }

    private static void publishedValues() {
        Check.says("h = 0x811C9DC5; for each byte b h becomes (h xor b) * 16777619 as an int");
        Check.due("of no byte", Wire.fnv(), 0x811C9DC5);
        Check.due("of a", Wire.fnv('a'), 0xE40C292C);
        Check.due("of foobar", Wire.fnv('f', 'o', 'o', 'b', 'a', 'r'), 0xBF9CF968);
        Check.says("behind the last one h becomes h xor (h >>> 15), once");
        Check.due("of a", Wire.hash(Wire.row('a')), 0xE40DE134);
    }

    private static void requests() {
        Check.says("MAC of an int k and a row: HASH of k, the byte 92 and the int HASH of (k, the byte 54, the row)");
        int[][] dues = {
            {0, 0x9BE046A7, 0x9AE05A10, 0x5A352126},
            {7, 0xAD4F218C, 0xAE4F203F, 0xA12E35F8},
            {-1, 0x84BE90BE, 0x83BE9F51, 0x28B8C3D7},
            {Integer.MIN_VALUE, 0xEB303686, 0xEA300B31, 0xB6D5826B},
            {Integer.MAX_VALUE, 0xDD5051E2, 0xDC50510D, 0xD777C45B},
            {0x12345678, 0x34999706, 0x33999B91, 0x578C2B67}};
        for (int[] due : dues) {
            Bench b = new Bench(due[0]);
            b.query(0, 3);
            Check.bytes("the first request with key " + due[0], b.latest(), Wire.cat(Wire.row(1, 0, 23),
                Wire.four(due[1]), Wire.row(1, 3, 3, 79, 7, 2, 0, 5, 1, 3, 80, 6), Wire.four(due[3])));
            b.query(1, 3);
            Check.due("the second AUTHENTICATOR with key " + due[0], Wire.number(b.latest(), 3), due[2]);
        }
    }

    private static void answers() {
        Check.says("of an answer HASH of its bytes (its SEAL as it is by then), ..., and the key");
        int[][] dues = {{7, 0xF23C5EF6, 0x23A65119, 0xD370D433}, {-1, 0xB8D73927, 0xE909E3B4, 0xB277F2FF}};
        for (int[] due : dues) {
            Bench b = new Bench(due[0]);
            b.bring(2, 0, Wire.cat(Wire.row(1, 200, 23), Wire.four(0x89ABCDEF),
                Wire.row(1, 3, 0, 79, 7, 2, 8, 5, 1, 0, 80, 6), Wire.four(due[1])));
            Check.bytes("a REJECT with key " + due[0], b.latest(), Wire.cat(Wire.row(3, 200, 18), Wire.four(due[3]),
                Wire.row(79, 5, 4, 8, 3, 80, 6), Wire.four(due[2])));
        }
    }

    private static int[] responseTo(int h, int key, int methods, int... packet) {
        Bench b = new Bench(1);
        b.x.host(h, 3, key, methods);
        b.bring(1, h, Wire.frame(packet));
        return b.latest();
    }

    private static void challenges() {
        Check.says("the response of type 4 is the int HASH of the id, the key and these four bytes");
        Check.bytes("key 1234", responseTo(0, 1234, 1, 1, 0, 8, 4, 0, 0, 0, 0),
            Wire.cat(Wire.row(0, 2, 0, 8, 4), Wire.four(0xD1DB7824)));
        Check.bytes("key -1", responseTo(0, -1, 1, 1, 255, 8, 4, 255, 128, 127, 1),
            Wire.cat(Wire.row(0, 2, 255, 8, 4), Wire.four(0xF0924182)));
        Check.bytes("the lowest key", responseTo(0, Integer.MIN_VALUE, 1, 1, 128, 8, 4, 1, 2, 3, 4),
            Wire.cat(Wire.row(0, 2, 128, 8, 4), Wire.four(0x1BE37019)));
    }

    private static void mutualProofs() {
        Check.says("the byte 2, the int OURS and the int MAC of its key and (2, THEIRS, OURS)");
        Check.bytes("host 0", responseTo(0, 55, 2, 1, 9, 9, 51, 1, 0, 0, 0, 0),
            Wire.cat(Wire.row(0, 2, 9, 13, 51, 2), Wire.four(0x926C1F5A), Wire.four(0x9B80EAEB)));
        Bench b = new Bench(1);
        b.x.host(3, 3, -9, 2);
        b.bring(1, 3, 0, 1, 9, 9, 51, 1, 0x80, 0xFF, 0x7F, 0x01);
        Check.bytes("host 3", b.latest(),
            Wire.cat(Wire.row(0, 2, 9, 13, 51, 2), Wire.four(0x1E96AFE3), Wire.four(0x490E01D5)));
        Check.says("the response of type 51 is the byte 4 and the int MAC of its key and (4, THEIRS, OURS)");
        b.bring(1, 3, Wire.cat(Wire.row(0, 1, 10, 9, 51, 3), Wire.four(0x6094FB9D)));
        Check.bytes("host 3", b.latest(), Wire.cat(Wire.row(0, 2, 10, 9, 51, 4), Wire.four(0x390BB161)));
        Check.says("its own random OURS is HASH of the key, the byte h and the int n");
        b.bring(1, 3, 0, 1, 11, 9, 51, 1, 0, 0, 0, 0);
        Check.due("the next one", Wire.number(b.latest(), 6), 0x1F96AB4C);
    }

    private static void randomsOfServers() {
        Check.says("the random is HASH of the user's key, the byte s and the int n");
        Bench b = new Bench(1);
        b.x.user(1, 55, 1);
        b.x.user(2, -9, 1);
        b.bring(2, 0, Wire.request(1, 0, 1, 0, -1, Wire.packet(2, 0, 1, 1)));
        Check.due("server 0", Wire.number(b.latest(), 17), 0x926C1F5A);
        b.bring(2, 1, Wire.request(1, 0, 1, 0, -1, Wire.packet(2, 0, 1, 1)));
        Check.due("server 1", Wire.number(b.latest(), 17), 0xD915316A);
        b.bring(2, 1, Wire.request(1, 0, 2, 0, -1, Wire.packet(2, 0, 1, 2)));
        Check.due("server 1, the second", Wire.number(b.latest(), 17), 0x9249204B);
    }
}
