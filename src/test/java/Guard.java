import java.util.ArrayList;
import java.util.List;
import java.util.function.ToIntFunction;

/**
 * A PortGuard whose calls are counted, as the document promises nothing about an object after its 512th call.
 * Calls that may change it are kept, so that a second object can be brought to the same state.
 */
final class Guard implements Face {
    static final int PROMISED = 512;

    private final int shared;
    private final PortGuard x;
    private final List<ToIntFunction<PortGuard>> changes = new ArrayList<>();
    private int calls;

    Guard(int shared) {
        this.shared = shared;
        x = new PortGuard(shared);
    }

    /** Another object that had the same calls, but for those that only ask. */
    Guard copy() {
        Guard other = new Guard(shared);
        for (ToIntFunction<PortGuard> call : changes) {
            other.change(call);
        }
        return other;
    }

    int calls() {
        return calls;
    }

    private int change(ToIntFunction<PortGuard> call) {
        changes.add(call);
        return ask(call);
    }

    private int ask(ToIntFunction<PortGuard> call) {
        calls++;
        if (calls > PROMISED) {
            throw new IllegalStateException("this test makes more calls of one object than the document promises");
        }
        return call.applyAsInt(x);
    }

    private static int number(boolean answer) {
        return answer ? 1 : 0;
    }

    @Override
    public boolean user(int u, int key, int methods) {
        return change(o -> number(o.user(u, key, methods))) == 1;
    }

    @Override
    public boolean host(int h, int u, int key, int methods) {
        return change(o -> number(o.host(h, u, key, methods))) == 1;
    }

    @Override
    public boolean start(int h, boolean on) {
        return change(o -> number(o.start(h, on))) == 1;
    }

    @Override
    public boolean link(int p, boolean on) {
        return change(o -> number(o.link(p, on))) == 1;
    }

    @Override
    public boolean power(int s, boolean on) {
        return change(o -> number(o.power(s, on))) == 1;
    }

    @Override
    public boolean pass(int k, int how) {
        return change(o -> number(o.pass(k, how))) == 1;
    }

    @Override
    public boolean alter(int k, int i, int by) {
        return change(o -> number(o.alter(k, i, by))) == 1;
    }

    @Override
    public boolean draft(long v, int n) {
        return change(o -> number(o.draft(v, n))) == 1;
    }

    @Override
    public boolean forge(int way, int place) {
        return change(o -> number(o.forge(way, place))) == 1;
    }

    @Override
    public int tick() {
        return change(PortGuard::tick);
    }

    @Override
    public int data(int p, int from, int to) {
        return change(o -> o.data(p, from, to));
    }

    @Override
    public int waiting() {
        return ask(PortGuard::waiting);
    }

    @Override
    public int message(int k, int what) {
        return ask(o -> o.message(k, what));
    }

    @Override
    public int port(int p, int what) {
        return ask(o -> o.port(p, what));
    }

    @Override
    public int station(int h, int what) {
        return ask(o -> o.station(h, what));
    }

    @Override
    public int server(int s, int what) {
        return ask(o -> o.server(s, what));
    }

    @Override
    public int wrong(int who) {
        return ask(o -> o.wrong(who));
    }

    @Override
    public int learned(int address) {
        return ask(o -> o.learned(address));
    }

    @Override
    public int favourite() {
        return ask(PortGuard::favourite);
    }
}
