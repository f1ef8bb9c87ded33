/** Promises 7 (pass), 8 (alter), 9 (draft), 10 (forge), 13 (waiting) and 14 (message). */
public final class MessagesTest {
    public static void main(String[] args) {
        passes();
        delivers();
        fullRoom();
        alters();
        drafts();
        forges();
        Check.end();
    }

    private static void passes() {
        Bench b = new Bench(1);
        b.forge(0, 3, 10);
        b.forge(1, 2, 20, 21);
        b.forge(2, 1, 30, 31, 32);
        for (int k : new int[] {-1, 3, 40, Integer.MIN_VALUE, Integer.MAX_VALUE}) {
            for (int how = 0; how < 3; how++) {
                Check.no("pass of none", b.x.pass(k, how));
            }
        }
        for (int how : new int[] {-1, 3, Integer.MIN_VALUE, Integer.MAX_VALUE}) {
            Check.no("pass how " + how, b.x.pass(0, how));
        }
        Check.due("all wait still", b.x.waiting(), 3);
        Check.yes("once more", b.x.pass(1, 2));
        Check.due("one more waits", b.x.waiting(), 4);
        Check.bytes("the same", b.bytes(3), 20, 21);
        Check.due("its way", b.x.message(3, 0), 1);
        Check.due("its place", b.x.message(3, 1), 2);
        Check.bytes("the first one stays", b.bytes(1), 20, 21);
        Check.yes("lost", b.x.pass(1, 1));
        Check.due("one less waits", b.x.waiting(), 3);
        Check.bytes("those behind it move up", b.bytes(1), 30, 31, 32);
        Check.due("with their way", b.x.message(1, 0), 2);
        Check.due("with their place", b.x.message(1, 1), 1);
        Check.bytes("in their order", b.bytes(2), 20, 21);
        b.x.alter(2, 0, 255);
        b.x.pass(2, 2);
        b.x.alter(2, 0, 255);
        Check.bytes("a copy is a message of its own", b.bytes(3), 20 ^ 255, 21);
    }

    private static void delivers() {
        Bench b = new Bench(1);
        b.x.user(1, 2, 1);
        b.x.host(2, 1, 2, 1);
        b.x.link(2, true);
        b.forge(3, 0, 9, 9);
        Check.yes("to the host", b.x.pass(0, 0));
        Check.bytes("what it sends is the last one", b.bytes(1), Wire.frame(Wire.packet(2, 0, 1, 1)));
        Check.due("its way", b.x.message(1, 0), 0);
        Check.due("its place", b.x.message(1, 1), 2);
        Check.yes("to the switch from a server", b.x.pass(0, 0));
        Check.due("counted there", b.x.wrong(0), 1);
        Check.yes("to the switch from the host", b.x.pass(0, 0));
        int[] asked = Wire.request(1, 0, Wire.authenticator(1, 0), 1, -1, Wire.packet(2, 0, 1, 1));
        Check.bytes("the switch asks", b.bytes(0), asked);
        Check.due("its way", b.x.message(0, 0), 2);
        Check.due("its place", b.x.message(0, 1), 0);
        Check.yes("to the server", b.x.pass(0, 0));
        Check.due("the answer's way", b.x.message(0, 0), 3);
        Check.due("the answer's place", b.x.message(0, 1), 0);
        Check.due("nothing else waits", b.x.waiting(), 1);
    }

    private static void fullRoom() {
        Bench b = new Bench(1);
        b.x.host(0, 1, 2, 1);
        b.x.link(0, true);
        for (int n = 0; n < 39; n++) {
            b.forge(3, n % 2, n, n);
        }
        Check.due("40 wait", b.x.waiting(), 40);
        Check.yes("forge answers as ever", b.x.draft(1, 1) && b.x.forge(3, 1));
        Check.no("and the draft is gone", b.x.forge(3, 1));
        Check.yes("pass answers as ever", b.x.pass(3, 2));
        Check.yes("start answers as ever", b.x.start(0, true));
        Check.yes("link answers as ever", b.x.link(1, true));
        Check.due("and is as if it was sent", b.x.port(1, 11), 1);
        Check.due("40 wait still", b.x.waiting(), 40);
        Check.bytes("the last one is as it was", b.bytes(39), 38, 38);
        Check.yes("what is delivered makes room", b.x.pass(0, 0));
        Check.due("so 40 wait", b.x.waiting(), 40);
        Check.bytes("the host's response", b.bytes(39), Wire.frame(Wire.packet(2, 0, 1, 1)));
        Check.due("all 40 wait after ticks", waitingAfterTicks(b), 40);
        Check.due("again was counted", b.x.port(1, 3), 1);
    }

    private static int waitingAfterTicks(Bench b) {
        b.ticks(4);
        return b.x.tick();
    }

    private static void alters() {
        Bench b = new Bench(1);
        b.forge(2, 0, 0x55, 0xAA, 0xFF);
        for (int k : new int[] {-1, 1, Integer.MIN_VALUE, Integer.MAX_VALUE}) {
            Check.no("alter of none", b.x.alter(k, 0, 1));
        }
        for (int i : new int[] {-1, 3, 47, 48, Integer.MIN_VALUE, Integer.MAX_VALUE}) {
            Check.no("alter byte " + i, b.x.alter(0, i, 1));
        }
        Check.bytes("as it was", b.bytes(0), 0x55, 0xAA, 0xFF);
        Check.yes("alter the last", b.x.alter(0, 2, 0x1234F0));
        Check.yes("alter the first", b.x.alter(0, 0, -1));
        Check.yes("by nothing", b.x.alter(0, 1, 256));
        Check.bytes("altered", b.bytes(0), 0xAA, 0xAA, 0x0F);
    }

    private static void drafts() {
        Bench b = new Bench(1);
        for (int n : new int[] {-1, 0, 9, Integer.MIN_VALUE, Integer.MAX_VALUE}) {
            Check.no("draft of " + n, b.x.draft(1, n));
        }
        Check.yes("eight", b.x.draft(0x8877665544332211L, 8));
        Check.yes("three", b.x.draft(-2, 3));
        b.x.forge(2, 1);
        Check.bytes("the lowest first", b.bytes(0),
            0x11, 0x22, 0x33, 0x44, 0x55, 0x66, 0x77, 0x88, 0xFE, 0xFF, 0xFF);
        for (int n = 0; n < 5; n++) {
            b.x.draft(n, 8);
        }
        Check.yes("47", b.x.draft(5, 7));
        Check.no("49 would be too many", b.x.draft(6, 2));
        Check.yes("48", b.x.draft(7, 1));
        Check.no("49", b.x.draft(8, 1));
        b.x.forge(2, 1);
        Check.due("48 bytes", b.x.message(1, 2), 48);
        Check.due("the last of them", b.x.message(1, 50), 7);
        Check.due("no more", b.x.message(1, 51), -1);
        Check.yes("a new draft has room", b.x.draft(0, 8));
    }

    private static void forges() {
        Bench b = new Bench(1);
        Check.no("an empty draft", b.x.forge(0, 0));
        b.x.draft(7, 1);
        for (int way : new int[] {-1, 4, Integer.MIN_VALUE, Integer.MAX_VALUE}) {
            Check.no("way " + way, b.x.forge(way, 0));
        }
        for (int place : new int[] {-1, 4, Integer.MIN_VALUE, Integer.MAX_VALUE}) {
            Check.no("port " + place, b.x.forge(0, place));
            Check.no("host " + place, b.x.forge(1, place));
        }
        for (int place : new int[] {-1, 2, 3, Integer.MIN_VALUE, Integer.MAX_VALUE}) {
            Check.no("to server " + place, b.x.forge(2, place));
            Check.no("from server " + place, b.x.forge(3, place));
        }
        Check.due("nothing waits", b.x.waiting(), 0);
        for (int way = 0; way < 4; way++) {
            for (int place = 0; place < (way < 2 ? 4 : 2); place++) {
                b.x.draft(way, 1);
                Check.yes("forge " + way + " " + place, b.x.forge(way, place));
                int k = b.x.waiting() - 1;
                Check.due("its way", b.x.message(k, 0), way);
                Check.due("its place", b.x.message(k, 1), place);
                Check.due("its last byte", b.x.message(k, 2 + b.x.message(k, 2)), way);
            }
        }
        Check.bytes("the refused draft was kept", b.bytes(0), 7, 0);
        Check.due("all wait", b.x.waiting(), 12);
    }
}
