import java.util.ArrayList;
import java.util.List;
import java.util.Random;

/** Long mixed runs, the same ones each time, in which PortGuard and Model must agree after every call. */
public final class ModelTest {
    private static final int RUNS = 400;
    private static final int STEPS = 500;

    private final Random random;
    private final int key;
    private final Bench bench;
    private final Model model;
    private final List<String> calls = new ArrayList<>();
    private final int[] seen = new int[5];

    private ModelTest(int seed) {
        random = new Random(seed);
        key = random.nextInt();
        bench = new Bench(key);
        model = new Model(key);
    }

    public static void main(String[] args) {
        int[] seen = new int[5];
        for (int seed = 0; seed < RUNS; seed++) {
            ModelTest run = new ModelTest(seed);
            boolean good = run.go(seed);
            Check.yes("run " + seed, good);
            for (int state = 0; state < 5; state++) {
                seen[state] += run.seen[state];
            }
            if (!good) {
                break;
            }
        }
        for (int state = 0; state < 5; state++) {
            Check.yes("the runs reach state " + state, seen[state] > RUNS);
        }
        Check.end();
    }

    private boolean go(int seed) {
        for (int u = 0; u < 8; u++) {
            settleUser(u);
        }
        for (int p = 0; p < 4; p++) {
            settleHost(p);
            call("link", p, 1);
        }
        int haste = 1 + random.nextInt(30);
        for (int step = 0; step < STEPS; step++) {
            act(haste);
            for (int p = 0; p < 4; p++) {
                seen[model.gates[p].state]++;
            }
            boolean same = bench.state().equals(model.state()) && bench.messages().equals(model.messages());
            if (!same || !calls.isEmpty() && calls.get(calls.size() - 1).endsWith("!")) {
                report(seed);
                return false;
            }
        }
        return true;
    }

    private void report(int seed) {
        System.out.println("run " + seed + " with key " + key + ": " + calls);
        System.out.println("PortGuard:" + bench.state() + bench.messages());
        System.out.println("Model:" + model.state() + model.messages());
    }

    private void act(int haste) {
        int waiting = model.waiting.size();
        int dice = random.nextInt(100);
        if (dice < 45 || waiting > 36 && dice < 80) {
            call("pass", random.nextInt(3) > 0 ? 0 : random.nextInt(waiting + 1), waiting > 36 ? random.nextInt(2) : 0);
        } else if (dice < 45 + haste) {
            call("tick", 0, 0);
        } else {
            actRarely(random.nextInt(16), waiting);
        }
    }

    private void actRarely(int which, int waiting) {
        switch (which) {
            case 0 -> call("pass", random.nextInt(waiting + 2) - 1, random.nextInt(5) - 1);
            case 1 -> call("pass", random.nextInt(waiting + 1), 2);
            case 2 -> alter(waiting);
            case 3 -> call("start", random.nextInt(6) - 1, random.nextInt(2));
            case 4 -> call("link", random.nextInt(6) - 1, random.nextInt(3) > 0 ? 1 : 0);
            case 5 -> call("power", random.nextInt(4) - 1, random.nextInt(3) > 0 ? 1 : 0);
            case 6 -> settleUser(random.nextInt(10) - 1);
            case 7 -> settleHost(random.nextInt(6) - 1);
            case 8 -> forge(random.nextInt(4), random.nextInt(4), junk());
            case 9 -> forge(1, random.nextInt(4), Wire.frame(requestToHost()));
            case 10 -> forgeFromHost(random.nextInt(4));
            case 11 -> forgeToServer();
            case 12 -> forgeFromServer();
            case 13 -> call("link", random.nextInt(4), 1);
            default -> call("data", random.nextInt(4), random.nextInt(90));
        }
    }

    private void settleUser(int u) {
        call("user", u, random.nextInt(20));
    }

    private void settleHost(int h) {
        call("host", h, random.nextInt(200));
    }

    private void alter(int waiting) {
        int k = random.nextInt(waiting + 1);
        int size = k < waiting ? model.waiting.get(k).row().length : 1;
        call("alter", k, random.nextInt(size + 1) * 1000 + (random.nextInt(3) > 0 ? random.nextInt(8) : random.nextInt(600)));
    }

    private void forge(int way, int place, int... row) {
        for (int b : row) {
            call("draft", b, 1);
        }
        call("forge", way, way < 2 ? place : place % 2);
    }

    private int[] junk() {
        int[] row = new int[1 + random.nextInt(48)];
        for (int i = 0; i < row.length; i++) {
            row[i] = random.nextInt(random.nextBoolean() ? 6 : 256);
        }
        return row;
    }

    private int[] data(int most) {
        int[] row = new int[random.nextInt(most + 1)];
        for (int i = 0; i < row.length; i++) {
            row[i] = random.nextInt(random.nextBoolean() ? 6 : 256);
        }
        return row;
    }

    private int type() {
        return new int[] {1, 3, 4, 4, 51, 51, 2, 0}[random.nextInt(8)];
    }

    private int[] requestToHost() {
        int[] sizes = {4, 5, 0, 1};
        int[] content = java.util.Arrays.copyOf(data(16), sizes[random.nextInt(4)]);
        return Wire.packet(1 + random.nextInt(2), random.nextInt(6), Wire.cat(Wire.row(type()), content));
    }

    private void forgeFromHost(int p) {
        int[] last = model.gates[p].last;
        int id = last == null || random.nextInt(8) == 0 ? random.nextInt(256) : last[1];
        int[] content = random.nextBoolean() ? Wire.row(1, random.nextInt(9)) : Wire.cat(Wire.row(type()), data(16));
        forge(0, p, Wire.frame(Wire.packet(2, id, content)));
    }

    /** A datagram that is sealed well, with attributes in any order and pieces of any size. */
    private int[] sealed(int code, int id, int authenticator, int name, int token, int[] packet) {
        List<int[]> attributes = new ArrayList<>();
        int size = 1 + random.nextInt(8);
        for (int from = 0; from < packet.length; from += size) {
            int[] value = java.util.Arrays.copyOfRange(packet, from, Math.min(from + size, packet.length));
            attributes.add(Wire.cat(Wire.row(79, value.length + 2), value));
        }
        int[][] more = {Wire.name(name), Wire.token(token), Wire.SEAL};
        for (int[] attribute : more) {
            attributes.add(random.nextInt(attributes.size() + 1), attribute);
        }
        int[] bare = Wire.bare(code, id, authenticator, attributes.toArray(new int[0][]));
        if (bare.length > 48) {
            bare = Wire.bare(code, id, authenticator, more[0], more[1], Wire.pieces(packet), more[2]);
        }
        int at = 7;
        while (bare[at] != 80) {
            at += bare[at + 1];
        }
        return Wire.sealed(key, bare, at);
    }

    private void forgeToServer() {
        int s = random.nextInt(2);
        int token = random.nextInt(3) == 0 ? -1 : Math.max(0, model.servers[s].began - 1 - random.nextInt(5));
        int id = random.nextInt(256);
        for (Model.Visit v : model.servers[s].visits) {
            id = v.number == token ? v.awaits : id;
        }
        int[] content = switch (random.nextInt(4)) {
            case 0 -> Wire.row(1, random.nextInt(9));
            case 1 -> Wire.row(3, random.nextBoolean() ? 4 : 51);
            default -> Wire.cat(Wire.row(type()), data(9));
        };
        int[] packet = random.nextInt(6) == 0 ? Wire.packet(3 + random.nextInt(2), id) : Wire.packet(2, id, content);
        int name = random.nextInt(8) - 1;
        forge(2, s, sealed(random.nextInt(8) > 0 ? 1 : 2, random.nextInt(4), random.nextInt(3), name, token, packet));
    }

    private void forgeFromServer() {
        for (Model.Gate g : model.gates) {
            if (g.query != null) {
                int id = random.nextInt(256);
                int[] request = Wire.packet(1, id, Wire.cat(Wire.row(type()), data(16)));
                int code = new int[] {11, 2, 3}[random.nextInt(3)];
                int[] packet = code == 11 ? request : Wire.packet(random.nextInt(9) > 0 ? code + 1 : 3, id);
                int token = random.nextInt(3) == 0 ? -1 : random.nextInt(65536);
                int[] row = sealed(code, g.query[1], Wire.number(g.query, 3), random.nextInt(3) - 1, token, packet);
                forge(3, random.nextInt(6) > 0 ? g.server : 1 - g.server, Wire.authenticated(key, row));
                return;
            }
        }
        call("tick", 0, 0);
    }

    /** Makes one call of both; what has more arguments than two has them packed in the second. */
    private void call(String name, int a, int c) {
        PortGuard x = bench.x;
        boolean on = c == 1;
        int[] keys = {0, 77, -5, 1 << 31};
        boolean same = switch (name) {
            case "pass" -> x.pass(a, c) == model.pass(a, c);
            case "tick" -> x.tick() == model.tick();
            case "start" -> x.start(a, on) == model.start(a, on);
            case "link" -> x.link(a, on) == model.link(a, on);
            case "power" -> x.power(a, on) == model.power(a, on);
            case "draft" -> x.draft(a, c) == model.draft(a, c);
            case "forge" -> x.forge(a, c) == model.forge(a, c);
            case "alter" -> x.alter(a, c / 1000, c % 1000) == model.alter(a, c / 1000, c % 1000);
            case "data" -> x.data(a, c / 10, c % 10) == model.data(a, c / 10, c % 10);
            case "user" -> x.user(a, keys[c % 4 / 3], c / 4) == model.user(a, keys[c % 4 / 3], c / 4);
            case "host" -> x.host(a, c / 20 - 1, keys[c % 4 / 3], c % 20 / 4)
                == model.host(a, c / 20 - 1, keys[c % 4 / 3], c % 20 / 4);
            default -> false;
        };
        calls.add(name + " " + a + " " + c + (same ? "" : "!"));
    }
}
