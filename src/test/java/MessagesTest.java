/** Promises 7 (pass), 8 (alter), 9 (draft), 10 (forge), 13 (waiting) and 14 (message). */
public final class MessagesTest {
    public static void main(String[] args) {
        passRefused();
        passDelivers();
        passLoses();
        passSendsOnceMore();
        alterRefused();
        alterXors();
        draftRefused();
        draftOfFortyEight();
        draftLowestFirst();
        forgeRefused();
        forgeSends();
        forgeEmptiesDraft();
        waitingCounts();
        messageOfNone();
        messageTells();
        Check.end();
    }

    /** Three messages: of one, two and three bytes. */
    private static Bench three() {
        Bench b = new Bench(1);
        b.forge(0, 3, 10);
        b.forge(1, 2, 20, 21);
        b.forge(2, 1, 30, 31, 32);
        return b;
    }

    private static void passRefused() {
        Check.says("true; false, refused, if there is no such message or how is not 0 .. 2");
        Bench b = three();
        for (int how = 0; how <= 2; how++) {
            int by = how;
            for (int k : new int[] {-1, 3, 39, 40}) {
                b.refused("k " + k, f -> f.pass(k, by));
            }
            for (int far : Bench.FAR) {
                b.refused("k " + far, f -> f.pass(far, by));
            }
            new Bench(1).refused("of none", f -> f.pass(0, by));
        }
        for (int how : new int[] {-1, 3}) {
            b.refused("how " + how, f -> f.pass(0, how));
        }
        for (int far : Bench.FAR) {
            b.refused("how " + far, f -> f.pass(0, far));
        }
        Check.yes("the last one", b.x.pass(2, 1));
        Check.no("which is there no more", b.x.pass(2, 1));
        Check.yes("the first one", b.x.pass(0, 1));
    }

    private static void passDelivers() {
        Check.says("how 0: it waits no more, and is delivered");
        Bench b = new Bench(1);
        b.x.user(1, 2, 1);
        b.x.host(2, 1, 2, 1);
        b.x.link(2, true);
        b.forge(3, 0, 9, 9);
        Check.yes("to the host", b.x.pass(0, 0));
        Check.bytes("the other moved up", b.bytes(0), 9, 9);
        Check.bytes("what was sent is the last", b.bytes(1), 0, 2, 0, 5, 1, 1);
        Check.yes("to the switch from a server", b.x.pass(0, 0));
        Check.due("counted there", b.x.wrong(0), 1);
        Check.yes("to the switch from the host", b.x.pass(0, 0));
        Check.due("its way", b.x.message(0, 0), 2);
        Check.yes("to the server", b.x.pass(0, 0));
        Check.due("its way", b.x.message(0, 0), 3);
        Check.due("nothing else waits", b.x.waiting(), 1);
        b = three();
        Check.yes("one in the middle", b.x.pass(1, 0));
        Check.bytes("the first stays", b.bytes(0), 10);
        Check.bytes("the last moved up", b.bytes(1), 30, 31, 32);
        Check.due("two wait", b.x.waiting(), 2);
    }

    private static void passLoses() {
        Check.says("1: it is lost");
        for (int k = 0; k < 3; k++) {
            Bench b = three();
            Check.yes("lost", b.x.pass(k, 1));
            Check.due("two wait", b.x.waiting(), 2);
            int left = 0;
            for (int other = 0; other < 3; other++) {
                if (other != k) {
                    Check.due("its way", b.x.message(left, 0), other);
                    Check.due("its place", b.x.message(left, 1), 3 - other);
                    Check.due("its size", b.x.message(left, 2), other + 1);
                    Check.due("its first byte", b.x.message(left, 3), 10 + 10 * other);
                    left++;
                }
            }
            Check.due("nobody saw it", b.x.wrong(0) + b.x.wrong(1) + b.x.wrong(2), 0);
        }
        Bench b = new Bench(1);
        b.x.host(2, 1, 2, 1);
        b.x.link(2, true);
        b.x.pass(0, 1);
        Check.due("no response", b.x.waiting(), 0);
    }

    private static void passSendsOnceMore() {
        Check.says("2: it is sent once more");
        for (int k = 0; k < 3; k++) {
            Bench b = three();
            Check.yes("once more", b.x.pass(k, 2));
            Check.due("four wait", b.x.waiting(), 4);
            Check.bytes("the same bytes", b.bytes(3), b.bytes(k));
            Check.due("its way", b.x.message(3, 0), k);
            Check.due("its place", b.x.message(3, 1), 3 - k);
            Check.due("the first one stays", b.x.message(k, 2), k + 1);
            b.x.alter(k, 0, 255);
            Check.due("a message of its own", b.x.message(3, 3), 10 + 10 * k);
            b.x.alter(3, 0, 1);
            Check.due("each", b.x.message(k, 3), 10 + 10 * k ^ 255);
        }
    }

    private static void alterRefused() {
        Check.says("False, refused, if there is no such message or byte.");
        Bench b = three();
        for (int k : new int[] {-1, 3, 40}) {
            b.refused("k " + k, f -> f.alter(k, 0, 1));
        }
        for (int k = 0; k < 3; k++) {
            int at = k;
            b.refused("byte -1", f -> f.alter(at, -1, 1));
            b.refused("byte " + (k + 1), f -> f.alter(at, at + 1, 1));
            b.refused("byte 48", f -> f.alter(at, 48, 1));
            Check.yes("byte " + k, b.x.alter(k, k, 0));
            Check.yes("byte 0", b.x.alter(k, 0, 0));
        }
        for (int far : Bench.FAR) {
            b.refused("k " + far, f -> f.alter(far, 0, 1));
            b.refused("byte " + far, f -> f.alter(0, far, 1));
        }
        new Bench(1).refused("of none", f -> f.alter(0, 0, 1));
    }

    private static void alterXors() {
        Check.says("Byte i (from 0) of the waiting message k becomes that byte xor (x & 255).");
        int[] xs = {0, 1, 128, 255, 256, 257, 0x1234F0, -1, -256, Integer.MIN_VALUE, Integer.MAX_VALUE};
        for (int x : xs) {
            Bench b = new Bench(1);
            b.forge(2, 0, 0x55, 0xAA, 0xFF);
            b.forge(2, 0, 0x55, 0xAA, 0xFF);
            Check.yes("alter", b.x.alter(1, 1, x));
            Check.bytes("by " + x, b.bytes(1), 0x55, 0xAA ^ x & 255, 0xFF);
            Check.bytes("no other message", b.bytes(0), 0x55, 0xAA, 0xFF);
            b.x.alter(0, 0, x);
            b.x.alter(0, 2, x);
            Check.bytes("the first and the last", b.bytes(0), 0x55 ^ x & 255, 0xAA, 0xFF ^ x & 255);
        }
    }

    private static void draftRefused() {
        Check.says("False, refused, if n is not 1 .. 8");
        Bench b = new Bench(1);
        b.draft(5, 6);
        for (int n : new int[] {-1, 0, 9}) {
            b.refused("n " + n, f -> f.draft(1, n));
        }
        for (int far : Bench.FAR) {
            b.refused("n " + far, f -> f.draft(1, far));
        }
        for (int n = 1; n <= 8; n++) {
            Check.yes("n " + n, b.x.draft(1, n));
        }
        b.x.forge(3, 1);
        Check.due("all of these", b.x.message(0, 2), 2 + 36);
    }

    private static void draftOfFortyEight() {
        Check.says("or it would have more than 48");
        for (int n = 1; n <= 8; n++) {
            Bench b = new Bench(1);
            for (int i = 0; i < 5; i++) {
                b.x.draft(i, 8);
            }
            if (n < 8) {
                b.x.draft(5, 8 - n);
            }
            int more = n;
            if (n < 8) {
                b.refused("49", f -> f.draft(6, more + 1));
            }
            Check.yes("48", b.x.draft(7, n));
            b.refused("49", f -> f.draft(8, 1));
            b.refused("56", f -> f.draft(8, 8));
            Check.yes("it can be sent", b.x.forge(3, 1));
            Check.due("48 bytes", b.x.message(0, 2), 48);
            Check.due("where the last began", b.x.message(0, 3 + 48 - n), 7);
            Check.yes("a new draft has room", b.x.draft(9, 8));
        }
    }

    private static void draftLowestFirst() {
        Check.says("Puts the lowest n bytes of v, the lowest one first, behind the DRAFT");
        int[] all = {0x11, 0x22, 0x33, 0x44, 0x55, 0x66, 0x77, 0x88};
        for (int n = 1; n <= 8; n++) {
            Bench b = new Bench(1);
            b.x.draft(0xFEL, 1);
            b.x.draft(0x8877665544332211L, n);
            b.x.draft(-2, 2);
            b.x.forge(2, 1);
            Check.bytes(n + " bytes", b.bytes(0),
                Wire.cat(Wire.row(0xFE), java.util.Arrays.copyOf(all, n), Wire.row(0xFE, 0xFF)));
        }
        Bench b = new Bench(1);
        b.x.draft(Long.MIN_VALUE, 8);
        b.x.draft(Long.MAX_VALUE, 8);
        b.x.forge(2, 1);
        Check.bytes("the ends of long", b.bytes(0), 0, 0, 0, 0, 0, 0, 0, 128, 255, 255, 255, 255, 255, 255, 255, 127);
    }

    private static void forgeRefused() {
        Check.says("False, refused, if way is not 0 .. 3, there is no such place, or the draft has no bytes.");
        Bench b = three();
        b.draft(7, 8, 9);
        for (int way : new int[] {-1, 4}) {
            b.refused("way " + way, f -> f.forge(way, 0));
        }
        for (int way = 0; way < 4; way++) {
            int by = way;
            int places = way < 2 ? 4 : 2;
            b.refused("place -1", f -> f.forge(by, -1));
            b.refused("place " + places, f -> f.forge(by, places));
            for (int far : Bench.FAR) {
                b.refused("place " + far, f -> f.forge(by, far));
            }
        }
        for (int far : Bench.FAR) {
            b.refused("way " + far, f -> f.forge(far, 0));
        }
        Check.yes("the draft stayed", b.x.forge(3, 1));
        Check.bytes("the draft stayed", b.bytes(3), 7, 8, 9);
        for (int way = 0; way < 4; way++) {
            int by = way;
            b.refused("no bytes", f -> f.forge(by, 0));
        }
    }

    private static void forgeSends() {
        Check.says("The draft is sent as a message with this way and place");
        for (int way = 0; way < 4; way++) {
            for (int place = 0; place < (way < 2 ? 4 : 2); place++) {
                Bench b = new Bench(1);
                b.draft(way, place, 255);
                Check.yes("forge", b.x.forge(way, place));
                Check.due("one waits", b.x.waiting(), 1);
                Check.due("its way", b.x.message(0, 0), way);
                Check.due("its place", b.x.message(0, 1), place);
                Check.bytes("its bytes", b.bytes(0), way, place, 255);
            }
        }
    }

    private static void forgeEmptiesDraft() {
        Check.says("and has no bytes any more");
        Bench b = new Bench(1);
        Check.no("no bytes at first", b.x.forge(0, 0));
        b.draft(1, 2, 3);
        Check.yes("three", b.x.forge(0, 0));
        Check.no("none", b.x.forge(0, 0));
        b.draft(4);
        Check.yes("one", b.x.forge(0, 0));
        Check.bytes("the second", b.bytes(1), 4);
        Check.bytes("the first is as it was", b.bytes(0), 1, 2, 3);
    }

    private static void waitingCounts() {
        Check.says("How many messages wait.");
        Bench b = new Bench(1);
        Check.due("none", b.x.waiting(), 0);
        b.x.link(0, true);
        Check.due("one", b.x.waiting(), 1);
        b.x.pass(0, 2);
        Check.due("two", b.x.waiting(), 2);
        b.loseAll();
        Check.due("none", b.x.waiting(), 0);
        b.fill(40);
        Check.due("40", b.x.waiting(), 40);
    }

    private static void messageOfNone() {
        Check.says("-1 if there is none.");
        Bench b = three();
        for (int k : new int[] {-1, 3, 40}) {
            for (int what = 0; what < 4; what++) {
                Check.due("k " + k, b.x.message(k, what), -1);
            }
        }
        for (int k = 0; k < 3; k++) {
            Check.due("what -1", b.x.message(k, -1), -1);
            Check.yes("the last byte", b.x.message(k, 3 + k) >= 0);
            Check.due("a byte behind the last", b.x.message(k, 4 + k), -1);
            Check.due("what 51", b.x.message(k, 51), -1);
        }
        for (int far : Bench.FAR) {
            Check.due("k " + far, b.x.message(far, 0), -1);
            Check.due("what " + far, b.x.message(0, far), -1);
        }
        Check.due("of none", new Bench(1).x.message(0, 0), -1);
    }

    private static void messageTells() {
        Check.says("what 0 its way, 1 its place, 2 how many bytes; from 3 on byte what - 3");
        Bench b = three();
        int[][] dues = {{0, 3, 1, 10, -1}, {1, 2, 2, 20, 21, -1}, {2, 1, 3, 30, 31, 32, -1}};
        for (int k = 0; k < 3; k++) {
            for (int what = 0; what < dues[k].length; what++) {
                Check.due("message(" + k + ", " + what + ")", b.x.message(k, what), dues[k][what]);
            }
        }
        b.draft(new int[47]);
        b.x.draft(200, 1);
        b.x.forge(3, 0);
        Check.due("48 bytes", b.x.message(3, 2), 48);
        Check.due("the last of 48", b.x.message(3, 50), 200);
        Check.due("behind it", b.x.message(3, 51), -1);
    }
}
