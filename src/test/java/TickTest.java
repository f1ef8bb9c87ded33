/** The term TICK and promise 11: every CLOCK, on both sides of what it stands for. */
public final class TickTest {
    private static final int KEY = 1 << 31;

    public static void main(String[] args) {
        answersHowManyWait();
        onlyPortsWithLink();
        clockFive();
        sentAgainTwice();
        beginsInAsking();
        closesInWorking();
        queryAtClockFour();
        otherServerByNewRequest();
        secondIsTheOtherThanTheFirst();
        failsAfterSecond();
        newQueryIsNotTheSecond();
        openForThirty();
        heldForSix();
        oneAtMost();
        portsInOrder();
        requestsInOrder();
        sendingAgainKeepsNextId();
        nothingToDo();
        Check.end();
    }

    private static int[] response(int id, int... typeAndData) {
        return Wire.frame(Wire.packet(2, id, typeAndData));
    }

    private static int[] answer(int n, int code, int token, int... packet) {
        return Wire.answer(KEY, code, n & 255, Wire.authenticator(KEY, n), token, packet);
    }

    /** Port 2 has asked server 0 by request 0 for user 6, by the response with id 0; nothing waits. */
    private static Bench asked() {
        Bench b = new Bench(KEY);
        b.query(2, 6);
        b.loseAll();
        return b;
    }

    private static void answersHowManyWait() {
        Check.says("A tick. Answers how many messages wait then.");
        Bench b = new Bench(KEY);
        Check.due("none", b.x.tick(), 0);
        b.x.link(1, true);
        Check.due("one", b.x.tick(), 1);
        b.ticks(3);
        Check.due("one more by this tick", b.x.tick(), 2);
        b.x.pass(0, 1);
        Check.due("one less", b.x.tick(), 1);
    }

    private static void onlyPortsWithLink() {
        Check.says("for each port with a link ..., CLOCK 1 more");
        Bench b = new Bench(KEY);
        b.x.link(1, true);
        b.x.link(3, true);
        b.ticks(2);
        b.x.link(3, false);
        b.ticks(2);
        int[] clocks = {0, 4, 0, 2};
        for (int p = 0; p < 4; p++) {
            Check.due("port " + p, b.x.port(p, 4), clocks[p]);
        }
        b.ticks(30);
        b.port("without link nothing comes", 3, 0, 0, 0, 0, 2, -1, 0, -1, -1, 0, 0, 1);
    }

    private static void clockFive() {
        Check.says("something awaited and CLOCK 5: if it was sent again less than twice: it is sent again, CLOCK 0, once more");
        Bench b = new Bench(KEY);
        b.x.link(0, true);
        for (int n = 1; n <= 4; n++) {
            Check.due("nothing at CLOCK " + n, b.x.tick(), 1);
            Check.due("CLOCK", b.x.port(0, 4), n);
        }
        Check.due("at CLOCK 5", b.x.tick(), 2);
        b.port("sent again", 0, 1, 0, 1, 1, 0, -1, 0, -1, -1, 0, 0, 1);
        Check.bytes("the same", b.bytes(1), b.bytes(0));
    }

    private static void sentAgainTwice() {
        Check.says("if it was sent again less than twice");
        Bench b = new Bench(KEY);
        b.x.link(0, true);
        b.ticks(10);
        b.port("twice", 0, 1, 0, 1, 2, 0, -1, 0, -1, -1, 0, 0, 1);
        b.ticks(4);
        Check.due("three in all", b.waiting(), 3);
        for (int k = 0; k < 3; k++) {
            Check.bytes("the same", b.bytes(k), 0, 1, 0, 4, 1);
        }
        b.bring(0, 0, response(0, 1, 6));
        Check.due("it is awaited till the last tick", b.x.port(0, 0), 2);
    }

    private static void beginsInAsking() {
        Check.says("else in ASKING begin");
        Bench b = new Bench(KEY);
        b.open(0, 3);
        b.x.data(0, 2, 8);
        b.x.start(0, true);
        b.pass(1);
        b.port("ASKING, authorised", 0, 1, 1, 1, 0, 0, -1, 0, 3, -1, 1, 1, 3);
        b.ticks(14);
        b.port("the last tick before", 0, 1, 1, 1, 2, 4, -1, 0, 3, -1, 1, 1, 3);
        b.x.tick();
        b.port("not closed", 0, 1, 1, 1, 0, 0, -1, 0, 3, -1, 1, 1, 4);
        Check.bytes("a new request", b.latest(), 0, 1, 3, 4, 1);
        Check.due("the bridge forgets nothing", b.x.learned(2), 0);
        b.bring(0, 0, response(2, 1, 3));
        Check.due("the old one is not awaited", b.x.port(0, 0), 1);
        b.ticks(15);
        Check.due("and so on", b.x.port(0, 11), 5);
    }

    private static void closesInWorking() {
        Check.says("in WORKING close, begin");
        Bench b = new Bench(KEY);
        b.open(0, 3);
        b.x.data(0, 2, 8);
        b.x.start(0, true);
        b.pass(5);
        b.port("WORKING, authorised", 0, 2, 1, 1, 0, 0, -1, 0, 3, 1, 1, 1, 4);
        b.ticks(14);
        b.port("the last tick before", 0, 2, 1, 1, 2, 4, -1, 0, 3, 1, 1, 1, 4);
        b.x.tick();
        b.port("closed", 0, 1, 0, 1, 0, 0, -1, 0, 3, -1, 1, 1, 5);
        Check.due("the bridge forgot", b.x.learned(2), -1);
        Check.bytes("a new request", b.latest(), 0, 1, 4, 4, 1);
    }

    private static void queryAtClockFour() {
        Check.says("A query and CLOCK 4: if TRIES is 1, the same is sent to the same server once more, TRIES 2, CLOCK 0");
        for (int favourite = 0; favourite < 2; favourite++) {
            Bench b = new Bench(KEY);
            if (favourite == 1) {
                b.query(0, 1);
                b.ticks(8);
                b.bring(3, 1, answer(1, 3, -1, 4, 0, 3));
                b.x.link(0, false);
                b.loseAll();
            }
            b.query(2, 6);
            for (int n = 1; n <= 3; n++) {
                Check.due("nothing at CLOCK " + n, b.x.tick(), 1);
                b.port("CLOCK", 2, 2, 0, 0, 0, n, favourite, 1);
            }
            Check.due("at CLOCK 4", b.x.tick(), 2);
            b.port("once more", 2, 2, 0, 0, 0, 0, favourite, 2);
            Check.bytes("the same", b.bytes(1), b.bytes(0));
            Check.due("its way", b.x.message(1, 0), 2);
            Check.due("to the same server", b.x.message(1, 1), favourite);
        }
    }

    private static void otherServerByNewRequest() {
        Check.says("else if it is not the second server, the other server is asked for the same packet, by a new request");
        Bench b = asked();
        b.bring(3, 0, answer(0, 11, 40, 1, 1, 4, 4));
        b.bring(0, 2, response(1, 4, 8, 9));
        b.loseAll();
        b.ticks(7);
        b.port("the last tick before", 2, 2, 0, 0, 0, 3, 0, 2, 6, 40);
        b.x.tick();
        b.port("the other server", 2, 2, 0, 0, 0, 0, 1, 1, 6, 40);
        Check.bytes("a new request", b.latest(),
            Wire.request(KEY, 2, Wire.authenticator(KEY, 2), 6, 40, Wire.packet(2, 1, 4, 8, 9)));
        Check.due("to the other server", b.x.message(b.waiting() - 1, 1), 1);
        b.ticks(4);
        b.port("once more to that", 2, 2, 0, 0, 0, 0, 1, 2, 6, 40);
        Check.bytes("the same", b.bytes(2), b.bytes(1));
    }

    private static void secondIsTheOtherThanTheFirst() {
        Check.says("the other server is asked");
        Bench b = asked();
        b.ticks(8);
        b.bring(3, 1, answer(1, 11, 50, 1, 2, 4, 4));
        b.bring(0, 2, response(2, 4));
        b.port("the FAVOURITE is 1", 2, 2, 0, 0, 0, 0, 1, 1, 6, 50);
        b.ticks(8);
        b.port("the other is 0", 2, 2, 0, 0, 0, 0, 0, 1, 6, 50);
        b.ticks(8);
        Check.due("HELD", b.x.port(2, 0), 4);
        b = new Bench(KEY);
        b.query(1, 5);
        b.ticks(4);
        b.query(2, 6);
        b.ticks(4);
        b.port("port 1 asks server 1", 1, 2, 0, 0, 0, 0, 1, 1);
        b.bring(3, 1, answer(2, 3, -1, 4, 0, 3));
        Check.due("which is the FAVOURITE", b.x.favourite(), 1);
        b.port("port 2 has tried 0 twice", 2, 2, 0, 0, 0, 0, 0, 2);
        b.ticks(4);
        b.port("the other than it tried", 2, 2, 0, 0, 0, 0, 1, 1);
    }

    private static void failsAfterSecond() {
        Check.says("else a FAILURE with the id of LAST is sent; fail.");
        for (int id : new int[] {0, 7, 255}) {
            Bench b = asked();
            b.bring(3, 0, answer(0, 11, 40, 1, id, 4, 4));
            b.bring(0, 2, response(id, 4));
            b.loseAll();
            b.ticks(15);
            b.port("the last tick before", 2, 2, 0, 0, 0, 3, 1, 2, 6, 40, 0, 0, id + 1 & 255);
            Check.due("three tries behind the first", b.waiting(), 3);
            b.x.tick();
            Check.bytes("a FAILURE", b.latest(), 0, 4, id, 3);
            Check.due("its way", b.x.message(3, 0), 1);
            Check.due("its place", b.x.message(3, 1), 2);
            b.port("HELD", 2, 4, 0, 0, 0, 0, -1, 0, 6, 40, 0, 0, id + 1 & 255);
            Check.due("the FAVOURITE stays", b.x.favourite(), 0);
        }
        authorisedFails();
    }

    private static void authorisedFails() {
        Bench b = new Bench(KEY);
        b.open(0, 3);
        b.x.data(0, 2, 8);
        b.x.start(0, true);
        b.pass(3);
        b.ticks(15);
        Check.due("authorised till then", b.x.port(0, 1), 1);
        b.x.tick();
        Check.due("no more", b.x.port(0, 1), 0);
        Check.due("the bridge forgot", b.x.learned(2), -1);
    }

    private static void newQueryIsNotTheSecond() {
        Check.says("(it is the second one then)");
        Bench b = asked();
        b.ticks(8);
        b.bring(3, 1, answer(1, 11, 50, 1, 2, 4, 4));
        b.bring(0, 2, response(2, 4));
        b.ticks(8);
        Check.due("a new query has a second server again", b.x.port(2, 0), 2);
        b = asked();
        b.ticks(8);
        b.bring(0, 2, 1);
        b.bring(0, 2, response(1, 1, 6));
        b.ticks(8);
        b.port("so has one after begin", 2, 2, 0, 0, 0, 0, 1, 1);
        b = asked();
        b.ticks(16);
        b.ticks(6);
        b.bring(0, 2, response(1, 1, 6));
        b.ticks(8);
        b.port("and one after HELD", 2, 2, 0, 0, 0, 0, 1, 1);
    }

    private static void openForThirty() {
        Check.says("OPEN and CLOCK 30: begin.");
        Bench b = new Bench(KEY);
        b.open(1, 4);
        b.x.data(1, 2, 8);
        b.ticks(29);
        b.port("CLOCK 29", 1, 3, 1, 0, 0, 29, -1, 0, 4, 0, 1, 1, 2);
        Check.due("nothing is sent", b.x.waiting(), 0);
        Check.due("CLOCK 30", b.x.tick(), 1);
        b.port("begin", 1, 1, 1, 1, 0, 0, -1, 0, 4, -1, 1, 1, 3);
        Check.bytes("the request", b.latest(), 0, 1, 2, 4, 1);
        Check.due("it is not closed", b.x.learned(2), 1);
        b.passAll();
        b.port("OPEN again", 1, 3, 1, 0, 0, 0, -1, 0, 4, 1, 1, 1, 4);
        b.ticks(29);
        Check.due("for thirty again", b.x.port(1, 0), 3);
        b.x.tick();
        Check.due("begin", b.x.port(1, 0), 1);
    }

    private static void heldForSix() {
        Check.says("HELD and CLOCK 6: begin.");
        Bench b = asked();
        b.ticks(3);
        b.bring(3, 0, answer(0, 3, -1, 4, 0, 3));
        b.loseAll();
        b.ticks(5);
        b.port("CLOCK 5", 2, 4, 0, 0, 0, 5, -1, 0, 6, -1, 0, 0, 1);
        Check.due("nothing is sent", b.x.waiting(), 0);
        Check.due("CLOCK 6", b.x.tick(), 1);
        b.port("begin", 2, 1, 0, 1, 0, 0, -1, 0, 6, -1, 0, 0, 2);
        Check.bytes("the request", b.latest(), 0, 1, 1, 4, 1);
    }

    private static void oneAtMost() {
        Check.says("(One of these at most, by what there was ahead of the tick.)");
        Bench b = asked();
        for (int n = 1; n <= 16; n++) {
            int before = b.waiting();
            Check.due("sent by tick " + n, b.x.tick() - before, n % 4 == 0 ? 1 : 0);
        }
        for (int n = 1; n <= 6; n++) {
            int before = b.waiting();
            Check.due("sent by tick " + n + " of HELD", b.x.tick() - before, n == 6 ? 1 : 0);
        }
        for (int n = 1; n <= 16; n++) {
            int before = b.waiting();
            Check.due("sent by tick " + n + " of ASKING", b.x.tick() - before, n % 5 == 0 ? 1 : 0);
        }
    }

    private static void portsInOrder() {
        Check.says("for each port with a link, in order");
        Bench b = new Bench(KEY);
        for (int p = 3; p >= 0; p--) {
            b.x.link(p, true);
        }
        b.loseAll();
        b.ticks(4);
        Check.due("four at once", b.x.tick(), 4);
        for (int p = 0; p < 4; p++) {
            Check.due("in order", b.x.message(p, 1), p);
        }
    }

    private static void requestsInOrder() {
        Check.says("for each port with a link, in order: the requests of one tick");
        Bench b = new Bench(KEY);
        for (int p = 3; p >= 0; p--) {
            b.query(p, p);
        }
        b.ticks(7);
        b.loseAll();
        Check.due("four at once", b.x.tick(), 4);
        for (int p = 0; p < 4; p++) {
            Check.bytes("request " + (4 + p), b.bytes(p),
                Wire.request(KEY, 4 + p, Wire.authenticator(KEY, 4 + p), p, -1, Wire.packet(2, 0, 1, p)));
        }
    }

    private static void sendingAgainKeepsNextId() {
        Check.says("(To send LAST again changes the NEXT id too: it is one more than the id of what was sent latest.)");
        for (int id : new int[] {0, 40, 255}) {
            Bench b = asked();
            b.bring(3, 0, answer(0, 11, 1, 1, id, 4, 4));
            b.ticks(5);
            Check.bytes("sent again", b.latest(), 0, 1, id, 4, 4);
            Check.due("one more", b.x.port(2, 11), id + 1 & 255);
            b.bring(0, 2, 1);
            Check.bytes("the next", b.latest(), 0, 1, id + 1 & 255, 4, 1);
        }
    }

    private static void nothingToDo() {
        Check.says("something awaited and CLOCK 5 ... A query and CLOCK 4 ... OPEN and CLOCK 30 ... HELD and CLOCK 6");
        Bench b = new Bench(KEY);
        b.open(1, 4);
        for (int n = 1; n < 30; n++) {
            Check.due("an OPEN port at CLOCK " + n, b.x.tick(), 0);
        }
        b = asked();
        b.bring(3, 0, answer(0, 11, 1, 1, 9, 4, 4));
        b.ticks(4);
        b.port("no query: nothing at CLOCK 4", 2, 2, 0, 1, 0, 4, -1, 0);
    }
}
