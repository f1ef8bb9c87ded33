import java.util.function.Consumer;
import java.util.function.Predicate;

/** A PortGuard with what tests do again and again. What is looked at here makes no call of it. */
final class Bench {
    static final int[] FAR = {Integer.MIN_VALUE, Integer.MIN_VALUE + 1, -256, 256, Integer.MAX_VALUE - 1, Integer.MAX_VALUE};

    final int key;
    final Guard x;

    Bench(int key) {
        this.key = key;
        x = new Guard(key);
    }

    View view() {
        return View.of(x);
    }

    int waiting() {
        return view().waiting();
    }

    int[] bytes(int k) {
        return view().bytes(k);
    }

    int[] latest() {
        View view = view();
        return view.bytes(view.waiting() - 1);
    }

    void port(String what, int p, int... want) {
        Check.first(what + ": port " + p, view().port(p), want);
    }

    void draft(int... row) {
        for (int from = 0; from < row.length; from += 8) {
            long v = 0;
            int n = Math.min(8, row.length - from);
            for (int i = 0; i < n; i++) {
                v |= (long) row[from + i] << 8 * i;
            }
            x.draft(v, n);
        }
    }

    /** Sends a row by draft and forge. */
    void forge(int way, int place, int... row) {
        draft(row);
        x.forge(way, place);
    }

    /** Delivers a row at once, ahead of all that waits; what it sends is the latest message. */
    void bring(int way, int place, int... row) {
        forge(way, place, row);
        x.pass(waiting() - 1, 0);
    }

    void passAll() {
        while (x.pass(0, 0)) {
            continue;
        }
    }

    void pass(int n) {
        for (int i = 0; i < n; i++) {
            x.pass(0, 0);
        }
    }

    void loseAll() {
        while (x.pass(0, 1)) {
            continue;
        }
    }

    void ticks(int n) {
        for (int i = 0; i < n; i++) {
            x.tick();
        }
    }

    /** Other messages wait behind those that do, till there are n in all. */
    void fill(int n) {
        int first = waiting();
        if (first < n) {
            forge(3, 1, 9);
        }
        for (int k = first + 1; k < n; k++) {
            x.pass(first, 2);
        }
    }

    /** Port p with a link, and its host let in by a challenge; nothing waits. */
    void open(int p, int user) {
        x.user(user, 1000 + user, 1);
        x.host(p, user, 1000 + user, 1);
        x.link(p, true);
        passAll();
    }

    /** Port p gets a link and asks the favourite server for user u. The request is the latest message. */
    void query(int p, int u) {
        x.link(p, true);
        int id = latest()[2];
        x.pass(waiting() - 1, 1);
        bring(0, p, Wire.frame(Wire.packet(2, id, 1, u)));
    }

    /**
     * Much is going on: port 0 is open, 1 has a query amid a mutual proof, 2 is held and 3 is asking; two users are known;
     * server 0 has a session and answers; hosts have a latest response, proof and results; a draft has three bytes;
     * and messages wait.
     */
    static Bench busy() {
        Bench b = new Bench(0x5EED);
        b.open(0, 1);
        b.x.data(0, 4, 8);
        b.x.host(2, 1, 7, 1);
        b.x.link(2, true);
        b.passAll();
        b.x.user(5, 55, 2);
        b.x.host(1, 5, 55, 2);
        b.x.link(1, true);
        b.pass(6);
        b.x.host(3, 5, 55, 2);
        b.x.link(3, true);
        b.x.start(0, true);
        b.draft(0, 4, 0);
        b.ticks(2);
        return b;
    }

    /**
     * All that can be asked after a call, at once and while the draft is sent, messages are passed, hosts start and
     * time goes by, so that what can't be asked comes to light too.
     */
    String after(Consumer<Face> call) {
        Guard g = x.copy();
        call.accept(g);
        StringBuilder text = new StringBuilder(View.of(g).all());
        g.forge(2, 0);
        pass(g, 12, text);
        for (int h = 0; h < 4; h++) {
            g.start(h, true);
        }
        pass(g, 28, text);
        for (int n = 0; n < 9; n++) {
            g.tick();
        }
        pass(g, 28, text);
        return text.toString();
    }

    private static void pass(Guard g, int n, StringBuilder text) {
        for (int i = 0; i < n; i++) {
            if (i % 4 == 0) {
                text.append(View.of(g).messages());
            }
            g.pass(0, 0);
        }
        text.append(View.of(g).state());
    }

    /** The call answers false, and all is as if it had not been made. It is made of copies alone. */
    void refused(String what, Predicate<Face> call) {
        Check.no(what, call.test(x.copy()));
        Check.same(what + " changes nothing", after(call::test), after(f -> { }));
    }

    /** A row that is delivered does nothing, as if it was lost; whether it is counted is not looked at. */
    void idle(String what, int way, int place, int... row) {
        forge(way, place, row);
        int k = waiting() - 1;
        String lost = after(f -> f.pass(k, 1));
        Check.same(what + " does nothing", uncounted(after(f -> f.pass(k, 0))), uncounted(lost));
        x.pass(k, 0);
    }

    private static String uncounted(String text) {
        return text.replaceAll("\nwrong: .*", "");
    }
}
