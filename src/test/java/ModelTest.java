import java.util.ArrayList;
import java.util.Arrays;
import java.util.List;
import java.util.Random;
import java.util.function.ToIntFunction;

/**
 * Mixed runs of 512 calls, the same ones each time, in which PortGuard and Model must answer alike. Some calls only
 * ask, and at the end of a run all is asked.
 */
public final class ModelTest {
    private static final int RUNS = 2500;
    private static final int STATES = 5;
    private static final int[] KEYS = {0, 77, -5, 1 << 31};

    private final Random random;
    private final int key;
    private final Guard guard;
    private final Model model;
    private final List<String> calls = new ArrayList<>();
    private final int[] seen = new int[STATES];
    private boolean same = true;

    private ModelTest(int seed) {
        random = new Random(seed);
        key = random.nextInt();
        guard = new Guard(key);
        model = new Model(key);
    }

    public static void main(String[] args) {
        Check.says("all promises");
        int[] seen = new int[STATES];
        boolean good = true;
        for (int seed = 0; seed < RUNS && good; seed++) {
            ModelTest run = new ModelTest(seed);
            good = run.go();
            Check.yes("run " + seed + ": " + (good ? "" : run.calls), good);
            for (int state = 0; state < STATES; state++) {
                seen[state] += run.seen[state];
            }
        }
        for (int state = 0; state < STATES && good; state++) {
            Check.yes("the runs reach state " + state, seen[state] > RUNS);
        }
        Check.end();
    }

    private boolean go() {
        for (int u = 0; u < 8; u++) {
            settleUser(u);
        }
        for (int p = 0; p < 4; p++) {
            settleHost(p);
            link(p, true);
        }
        int haste = 1 + random.nextInt(30);
        while (same && guard.calls() < Guard.PROMISED) {
            act(haste);
            for (int p = 0; p < 4; p++) {
                seen[model.gates[p].state]++;
            }
        }
        return same && View.of(guard).all().equals(View.of(model).all());
    }

    /** Makes a call of both. */
    private void both(String call, ToIntFunction<Face> of) {
        if (!same || guard.calls() >= Guard.PROMISED) {
            return;
        }
        int got = of.applyAsInt(guard);
        int want = of.applyAsInt(model);
        same = got == want;
        calls.add(call + " = " + got + (same ? "" : ", due is " + want));
    }

    private static int number(boolean answer) {
        return answer ? 1 : 0;
    }

    private void act(int haste) {
        int waiting = model.waiting.size();
        int dice = random.nextInt(100);
        if (dice < 40 || waiting > 36 && dice < 75) {
            pass(random.nextInt(3) > 0 ? 0 : random.nextInt(waiting + 1), waiting > 36 ? random.nextInt(2) : 0);
        } else if (dice < 40 + haste) {
            both("tick()", Face::tick);
        } else if (dice < 82) {
            actRarely(random.nextInt(16), waiting);
        } else {
            look(random.nextInt(8), waiting);
        }
    }

    private void actRarely(int which, int waiting) {
        switch (which) {
            case 0 -> pass(random.nextInt(waiting + 2) - 1, random.nextInt(5) - 1);
            case 1 -> pass(random.nextInt(waiting + 1), 2);
            case 2 -> alter(waiting);
            case 3 -> start(random.nextInt(6) - 1, random.nextBoolean());
            case 4 -> link(random.nextInt(6) - 1, random.nextInt(3) > 0);
            case 5 -> power(random.nextInt(4) - 1, random.nextInt(3) > 0);
            case 6 -> settleUser(random.nextInt(10) - 1);
            case 7 -> settleHost(random.nextInt(6) - 1);
            case 8 -> forge(random.nextInt(6) - 1, random.nextInt(6) - 1, junk());
            case 9 -> forge(1, random.nextInt(4), Wire.frame(requestToHost()));
            case 10 -> forgeFromHost(random.nextInt(4));
            case 11 -> forgeToServer();
            case 12 -> forgeFromServer();
            case 13 -> link(random.nextInt(4), true);
            default -> data(random.nextInt(6) - 1, random.nextInt(10) - 1, random.nextInt(11) - 1);
        }
    }

    private void look(int which, int waiting) {
        int a = random.nextInt(6) - 1;
        int what = random.nextInt(14) - 1;
        int k = random.nextInt(waiting + 2) - 1;
        int of = random.nextInt(54) - 1;
        switch (which) {
            case 0 -> both("waiting()", Face::waiting);
            case 1 -> both("port(" + a + ", " + what + ")", f -> f.port(a, what));
            case 2 -> both("station(" + a + ", " + what + ")", f -> f.station(a, what));
            case 3 -> both("server(" + a + ", " + what + ")", f -> f.server(a, what));
            case 4 -> both("wrong(" + a + ")", f -> f.wrong(a));
            case 5 -> both("learned(" + what + ")", f -> f.learned(what));
            case 6 -> both("favourite()", Face::favourite);
            default -> both("message(" + k + ", " + of + ")", f -> f.message(k, of));
        }
    }

    private void pass(int k, int how) {
        both("pass(" + k + ", " + how + ")", f -> number(f.pass(k, how)));
    }

    private void start(int h, boolean on) {
        both("start(" + h + ", " + on + ")", f -> number(f.start(h, on)));
    }

    private void link(int p, boolean on) {
        both("link(" + p + ", " + on + ")", f -> number(f.link(p, on)));
    }

    private void power(int s, boolean on) {
        both("power(" + s + ", " + on + ")", f -> number(f.power(s, on)));
    }

    private void data(int p, int from, int to) {
        both("data(" + p + ", " + from + ", " + to + ")", f -> f.data(p, from, to));
    }

    /** Most users and hosts have the same key, so that many proofs are right. */
    private int someKey() {
        return KEYS[random.nextInt(4) < 3 ? 0 : random.nextInt(4)];
    }

    private void settleUser(int u) {
        int userKey = someKey();
        int methods = random.nextInt(5);
        both("user(" + u + ", " + userKey + ", " + methods + ")", f -> number(f.user(u, userKey, methods)));
    }

    private void settleHost(int h) {
        int u = random.nextInt(11) - 2;
        int hostKey = someKey();
        int methods = random.nextInt(6) - 1;
        both("host(" + h + ", " + u + ", " + hostKey + ", " + methods + ")",
            f -> number(f.host(h, u, hostKey, methods)));
    }

    private void alter(int waiting) {
        int k = random.nextInt(waiting + 1);
        int size = k < waiting ? model.waiting.get(k).row().length : 1;
        int i = random.nextInt(size + 2) - 1;
        int by = random.nextInt(3) > 0 ? random.nextInt(8) : random.nextInt(1200) - 600;
        both("alter(" + k + ", " + i + ", " + by + ")", f -> number(f.alter(k, i, by)));
    }

    private void forge(int way, int place, int... row) {
        for (int from = 0; from < row.length; from += 8) {
            int n = Math.min(8, row.length - from);
            long v = 0;
            for (int i = 0; i < n; i++) {
                v |= (long) row[from + i] << 8 * i;
            }
            long bytes = v;
            both("draft(" + bytes + "L, " + n + ")", f -> number(f.draft(bytes, n)));
        }
        both("forge(" + way + ", " + place + ")", f -> number(f.forge(way, place)));
    }

    private int[] junk() {
        int[] row = new int[1 + random.nextInt(48)];
        for (int i = 0; i < row.length; i++) {
            row[i] = random.nextInt(random.nextBoolean() ? 6 : 256);
        }
        return row;
    }

    private int[] content(int most) {
        int[] row = new int[random.nextInt(most + 1)];
        for (int i = 0; i < row.length; i++) {
            row[i] = random.nextInt(random.nextBoolean() ? 6 : 256);
        }
        return row;
    }

    private int type() {
        return new int[] {1, 3, 4, 4, 51, 51, 2, 0}[random.nextInt(8)];
    }

    private int[] requestToHost() {
        int[] sizes = {4, 5, 0, 1};
        int[] content = Arrays.copyOf(content(16), sizes[random.nextInt(4)]);
        return Wire.packet(1 + random.nextInt(2), random.nextInt(6), Wire.cat(Wire.row(type()), content));
    }

    private void forgeFromHost(int p) {
        int[] last = model.gates[p].last;
        int id = last == null || random.nextInt(8) == 0 ? random.nextInt(256) : last[1];
        int[] content = random.nextBoolean() ? Wire.row(1, random.nextInt(9)) : Wire.cat(Wire.row(type()), content(16));
        forge(0, p, Wire.frame(Wire.packet(2, id, content)));
    }

    /** A datagram that is sealed well, with attributes in any order and pieces of any size. */
    private int[] sealed(int code, int id, int authenticator, int name, int token, int[] packet) {
        List<int[]> attributes = new ArrayList<>();
        int size = 1 + random.nextInt(8);
        for (int from = 0; from < packet.length; from += size) {
            int[] value = Arrays.copyOfRange(packet, from, Math.min(from + size, packet.length));
            attributes.add(Wire.cat(Wire.row(79, value.length + 2), value));
        }
        int[][] more = {Wire.name(name), Wire.token(token), Wire.SEAL};
        for (int[] attribute : more) {
            attributes.add(random.nextInt(attributes.size() + 1), attribute);
        }
        int[] bare = Wire.bare(code, id, authenticator, attributes.toArray(new int[0][]));
        if (bare.length > 48) {
            bare = Wire.bare(code, id, authenticator, more[0], more[1], Wire.pieces(packet), more[2]);
        }
        int at = 7;
        while (bare[at] != 80) {
            at += bare[at + 1];
        }
        return Wire.sealed(key, bare, at);
    }

    private void forgeToServer() {
        int s = random.nextInt(2);
        int token = random.nextInt(3) == 0 ? -1 : Math.max(0, model.servers[s].began - 1 - random.nextInt(5));
        int id = random.nextInt(256);
        for (Model.Visit v : model.servers[s].visits) {
            id = v.number == token ? v.awaits : id;
        }
        int[] content = switch (random.nextInt(4)) {
            case 0 -> Wire.row(1, random.nextInt(9));
            case 1 -> Wire.row(3, random.nextBoolean() ? 4 : 51);
            default -> Wire.cat(Wire.row(type()), content(9));
        };
        int[] packet = random.nextInt(6) == 0 ? Wire.packet(3 + random.nextInt(2), id) : Wire.packet(2, id, content);
        int name = random.nextInt(8) - 1;
        forge(2, s, sealed(random.nextInt(8) > 0 ? 1 : 2, random.nextInt(4), random.nextInt(3), name, token, packet));
    }

    private void forgeFromServer() {
        for (Model.Gate g : model.gates) {
            if (g.query != null) {
                int id = random.nextInt(256);
                int[] request = Wire.packet(1, id, Wire.cat(Wire.row(type()), content(16)));
                int code = new int[] {11, 2, 3}[random.nextInt(3)];
                int[] packet = code == 11 ? request : Wire.packet(random.nextInt(9) > 0 ? code + 1 : 3, id);
                int token = random.nextInt(3) == 0 ? -1 : random.nextInt(65536);
                int[] row = sealed(code, g.query[1], Wire.number(g.query, 3), random.nextInt(3) - 1, token, packet);
                forge(3, random.nextInt(6) > 0 ? g.server : 1 - g.server, Wire.authenticated(key, row));
                return;
            }
        }
        both("tick()", Face::tick);
    }
}
