import java.util.function.Consumer;

/** The term MESSAGES: the room for 40 of them, for every way in which one is sent. */
public final class RoomTest {
    private static final int KEY = 99;
    private static final int MOST = 40;

    public static void main(String[] args) {
        theFortieth();
        inTheOrderSent();
        starts();
        links();
        forges();
        copies();
        requestsSentAgain();
        requestsOfNewBeginnings();
        heldAndOpenPortsBegin();
        queriesSentAgain();
        otherServerAsked();
        failures();
        someFindRoom();
        delivered();
        Check.end();
    }

    private static void theFortieth() {
        Check.says("when 40 wait, one that is to be sent is lost");
        Bench b = new Bench(KEY);
        for (int n = 0; n < MOST; n++) {
            Check.due("so many wait", b.x.waiting(), n);
            b.forge(0, 0, n + 1);
        }
        Check.due("40 wait", b.x.waiting(), MOST);
        b.forge(0, 0, 77);
        Check.due("40 wait still", b.x.waiting(), MOST);
        for (int n = 0; n < MOST; n++) {
            Check.due("message " + n, b.x.message(n, 3), n + 1);
        }
        b.x.pass(0, 1);
        b.forge(0, 0, 78);
        Check.due("when 39 wait there is room", b.x.message(39, 3), 78);
    }

    private static void inTheOrderSent() {
        Check.says("MESSAGES wait in the order in which they were sent");
        Bench b = new Bench(KEY);
        for (int n = 0; n < 5; n++) {
            b.forge(3, 0, n);
        }
        b.x.pass(2, 1);
        b.x.pass(0, 2);
        b.forge(2, 1, 50);
        int[] due = {0, 1, 3, 4, 0, 50};
        for (int k = 0; k < due.length; k++) {
            Check.bytes("message " + k, b.bytes(k), due[k]);
        }
        Check.due("as many as are due", b.waiting(), due.length);
    }

    /**
     * What sends is done where 39 wait and where 40 do: the message is the 40th, or is lost; all that can be asked
     * else is the same as where nothing else waits.
     */
    private static void sends(String what, Consumer<Bench> before, Consumer<Bench> sending) {
        Bench free = prepared(before, 0);
        sending.accept(free);
        Check.due(what + " sends one", free.waiting(), 1);
        Bench last = prepared(before, MOST - 1);
        sending.accept(last);
        Check.due(what + ": 40 wait", last.waiting(), MOST);
        Check.bytes(what + " sends the 40th", last.bytes(MOST - 1), free.bytes(0));
        Check.same(what + " where 39 wait", last.view().state(), free.view().state());
        Bench full = prepared(before, MOST);
        String messages = full.view().messages();
        sending.accept(full);
        Check.same(what + " where 40 wait is lost", full.view().messages(), messages);
        Check.same(what + " is as if it was sent", full.view().state(), free.view().state());
        full.loseAll();
        free.loseAll();
        Check.same(what + ": all else goes on so", full.after(f -> { }), free.after(f -> { }));
    }

    private static Bench prepared(Consumer<Bench> before, int waiting) {
        Bench b = new Bench(KEY);
        b.x.user(1, 11, 1);
        b.x.host(0, 1, 11, 3);
        before.accept(b);
        b.loseAll();
        b.fill(waiting);
        return b;
    }

    private static void starts() {
        Check.says("one that is to be sent is lost (all else is as if it was sent ...): by start");
        Consumer<Bench> proved = b -> b.bring(1, 0, 0, 1, 9, 8, 4, 1, 2, 3, 4);
        sends("START", proved, b -> Check.yes("start answers as ever", b.x.start(0, true)));
        sends("LOGOFF", proved, b -> Check.yes("start answers as ever", b.x.start(0, false)));
    }

    private static void links() {
        Check.says("one that is to be sent is lost (all else is as if it was sent ...): by link");
        sends("link", b -> { }, b -> Check.yes("link answers as ever", b.x.link(0, true)));
    }

    private static void forges() {
        Check.says("one that is to be sent is lost (all else is as if it was sent ...): by forge");
        sends("forge", b -> { }, b -> {
            b.draft(7, 8);
            Check.yes("forge answers as ever", b.x.forge(3, 1));
            Check.no("and the draft has no bytes any more", b.x.forge(3, 1));
        });
    }

    private static void copies() {
        Check.says("one that is to be sent is lost (all else is as if it was sent ...): by pass");
        Bench b = new Bench(KEY);
        b.fill(MOST - 1);
        b.x.alter(5, 0, 255);
        Check.yes("pass", b.x.pass(5, 2));
        Check.bytes("the 40th", b.bytes(MOST - 1), 9 ^ 255);
        String messages = b.view().messages();
        Check.yes("pass answers as ever", b.x.pass(5, 2));
        Check.same("the copy is lost, not what was copied", b.view().messages(), messages);
    }

    private static void tickSends(String what, Consumer<Bench> before, int ticks) {
        sends(what, b -> {
            before.accept(b);
            b.ticks(ticks - 1);
        }, b -> Check.due(what + ": tick answers how many wait", b.x.tick(), b.waiting()));
    }

    private static void requestsSentAgain() {
        Check.says("one that is to be sent is lost (all else is as if it was sent ...): LAST sent again");
        tickSends("once more", b -> b.x.link(0, true), 5);
        tickSends("twice more", b -> b.x.link(0, true), 10);
    }

    private static void requestsOfNewBeginnings() {
        Check.says("one that is to be sent is lost (all else is as if it was sent ...): begin after LAST");
        tickSends("begin in ASKING", b -> b.x.link(0, true), 15);
        tickSends("begin in WORKING", b -> {
            b.x.link(0, true);
            b.pass(5);
        }, 15);
    }

    private static void heldAndOpenPortsBegin() {
        Check.says("one that is to be sent is lost (all else is as if it was sent ...): begin when HELD or OPEN");
        tickSends("begin when HELD", b -> {
            b.x.user(1, 12, 1);
            b.x.link(0, true);
            b.passAll();
        }, 6);
        tickSends("begin when OPEN", b -> {
            b.x.link(0, true);
            b.passAll();
        }, 30);
    }

    private static void queriesSentAgain() {
        Check.says("one that is to be sent is lost (all else is as if it was sent ...): a query once more");
        tickSends("once more", b -> b.query(0, 1), 4);
        tickSends("once more to the other server", b -> b.query(0, 1), 12);
    }

    private static void otherServerAsked() {
        Check.says("one that is to be sent is lost (all else is as if it was sent ...): the other server asked");
        tickSends("the other server", b -> b.query(0, 1), 8);
    }

    private static void failures() {
        Check.says("one that is to be sent is lost (all else is as if it was sent ...): a FAILURE");
        tickSends("fail", b -> b.query(0, 1), 16);
    }

    private static void someFindRoom() {
        Check.says("when 40 wait, one that is to be sent is lost: of four that one tick sends, two find room");
        Bench b = new Bench(KEY);
        for (int p = 0; p < 4; p++) {
            b.x.link(p, true);
        }
        b.loseAll();
        b.fill(MOST - 2);
        b.ticks(4);
        Check.due("40 wait", b.x.tick(), MOST);
        Check.due("that of port 0", b.x.message(MOST - 2, 1), 0);
        Check.due("that of port 1", b.x.message(MOST - 1, 1), 1);
        for (int p = 0; p < 4; p++) {
            Check.due("all were sent again", b.x.port(p, 3), 1);
        }
    }

    private static void delivered() {
        Check.says("it waits no more, and is delivered (what that sends finds its room)");
        Bench b = new Bench(KEY);
        b.x.user(1, 11, 1);
        b.x.host(0, 1, 11, 1);
        b.x.link(0, true);
        b.fill(MOST);
        int[] ways = {0, 2, 3, 1, 0, 2, 3, 1};
        Check.yes("to the host", b.x.pass(0, 0));
        for (int way : ways) {
            Check.due("40 wait", b.x.waiting(), MOST);
            Check.due("what was sent is the last", b.x.message(MOST - 1, 0), way);
            Check.yes("deliver it", b.x.pass(MOST - 1, 0));
        }
        Check.due("the last one sends nothing", b.x.waiting(), MOST - 1);
        Check.due("all went well", b.x.station(0, 0), 1);
    }
}
