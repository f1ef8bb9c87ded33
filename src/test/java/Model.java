import java.util.ArrayList;
import java.util.Arrays;
import java.util.List;

/** The document written a second time, as plainly as it goes: rows are never changed, only replaced. */
final class Model implements Face {
    record Message(int way, int place, int[] row) {
    }

    record Answer(int id, int authenticator, int[] row) {
    }

    static final class Station {
        int user = -1;
        int key;
        int methods;
        int[] latest;
        int[] theirs;
        int[] ours;
        boolean proof;
        int result;
        int randoms;
    }

    static final class Visit {
        int number;
        int user;
        boolean mutual;
        List<Integer> begun = new ArrayList<>();
        int awaits;
        int[] random;
        int[] theirs;
    }

    static final class Radius {
        boolean up = true;
        List<Visit> visits = new ArrayList<>();
        List<Answer> answers = new ArrayList<>();
        int began;
        int randoms;
    }

    static final class Gate {
        boolean link;
        int state;
        boolean authorised;
        int clock;
        int[] last;
        boolean awaited;
        int again;
        int user = -1;
        int token = -1;
        int[] query;
        int[] packet;
        int server;
        int tries;
        boolean second;
        int visits;
        int traffic;
        int next;
    }

    final int key;
    final List<Message> waiting = new ArrayList<>();
    final Station[] hosts = {new Station(), new Station(), new Station(), new Station()};
    final Radius[] servers = {new Radius(), new Radius()};
    final Gate[] gates = {new Gate(), new Gate(), new Gate(), new Gate()};
    final Integer[] keys = new Integer[8];
    final int[] methods = new int[8];
    final int[] learned = new int[8];
    final int[] wrong = new int[3];
    int[] draft = {};
    int favourite;
    int requests;

    Model(int shared) {
        key = shared;
        Arrays.fill(learned, -1);
    }

    private void send(int way, int place, int[] row) {
        if (waiting.size() < 40) {
            waiting.add(new Message(way, place, row));
        }
    }

    // what is right

    private static boolean rightPacket(int[] p) {
        if (p.length < 3 || p.length > 20 || p[2] != p.length) {
            return false;
        }
        return p[0] == 1 || p[0] == 2 ? p.length >= 4 : (p[0] == 3 || p[0] == 4) && p.length == 3;
    }

    /** null: WRONG; else the packet, or no bytes for START and LOGOFF. */
    private static int[] framed(int[] row) {
        if (row.length == 1 && (row[0] == 1 || row[0] == 2)) {
            return new int[0];
        }
        int[] packet = Wire.part(row, 1);
        return row[0] == 0 && rightPacket(packet) ? packet : null;
    }

    static final class Parsed {
        int name = -1;
        int token = -1;
        int seal = -1;
        int[] packet = {};
    }

    private static Parsed parse(int[] d) {
        if (d.length < 7 || d[2] != d.length) {
            return null;
        }
        Parsed parsed = new Parsed();
        int at = 7;
        while (at < d.length) {
            if (at + 1 >= d.length || d[at + 1] < 2 || at + d[at + 1] > d.length) {
                return null;
            }
            int kind = d[at];
            int size = d[at + 1];
            if (kind == 1 && size == 3 && parsed.name < 0) {
                parsed.name = d[at + 2];
            } else if (kind == 24 && size == 4 && parsed.token < 0) {
                parsed.token = d[at + 2] * 256 + d[at + 3];
            } else if (kind == 79 && size >= 3 && size <= 10) {
                parsed.packet = Wire.cat(parsed.packet, Arrays.copyOfRange(d, at + 2, at + size));
            } else if (kind == 80 && size == 6 && parsed.seal < 0) {
                parsed.seal = at;
            } else {
                return null;
            }
            at += size;
        }
        return parsed.seal >= 0 && rightPacket(parsed.packet) ? parsed : null;
    }

    // hosts

    private void toHost(int h, int[] row) {
        Station host = hosts[h];
        if (host.user < 0) {
            return;
        }
        int[] p = framed(row);
        if (p == null) {
            wrong[1]++;
        } else if (p.length > 0 && p[0] == 3 && host.proof) {
            host.result = 1;
        } else if (p.length > 0 && p[0] == 4) {
            host.result = 2;
            host.proof = false;
        } else if (p.length > 0 && p[0] == 1) {
            if (host.latest == null || host.latest[1] != p[1]) {
                int[] content = response(h, host, p, Wire.part(p, 4));
                if (content == null) {
                    return;
                }
                host.latest = Wire.packet(2, p[1], content);
            }
            send(0, h, Wire.frame(host.latest));
        }
    }

    private static int[] response(int h, Station host, int[] p, int[] data) {
        boolean challenge = (host.methods & 1) == 1;
        boolean mutual = host.methods >= 2;
        int[] mine = Wire.four(host.key);
        int type = p[3];
        if (type == 1) {
            host.proof = false;
            return Wire.row(1, host.user);
        }
        if (type == 4 && !challenge || type == 51 && !mutual) {
            return Wire.row(3, challenge ? 4 : mutual ? 51 : 0);
        }
        if (type == 4 && data.length == 4) {
            host.proof = true;
            return Wire.cat(Wire.row(4), Wire.four(Wire.hash(Wire.row(p[1]), mine, data)));
        }
        if (type == 51 && data.length == 5 && data[0] == 1) {
            host.proof = false;
            host.theirs = Wire.part(data, 1);
            host.ours = Wire.four(Wire.hash(mine, Wire.row(h), Wire.four(host.randoms++)));
            int mac = Wire.mac(host.key, Wire.row(2), host.theirs, host.ours);
            return Wire.cat(Wire.row(51, 2), host.ours, Wire.four(mac));
        }
        if (type == 51 && data.length == 5 && data[0] == 3 && host.theirs != null
                && Wire.number(data, 1) == Wire.mac(host.key, Wire.row(3), host.ours, host.theirs)) {
            host.proof = true;
            return Wire.cat(Wire.row(51, 4), Wire.four(Wire.mac(host.key, Wire.row(4), host.theirs, host.ours)));
        }
        return null;
    }

    // servers

    private void toServer(int s, int[] d) {
        Radius server = servers[s];
        if (!server.up) {
            return;
        }
        Parsed parsed = parse(d);
        if (parsed == null || d[0] != 1 || parsed.name < 0 || !Arrays.equals(d, Wire.sealed(key, d, parsed.seal))) {
            wrong[2]++;
            return;
        }
        int authenticator = Wire.number(d, 3);
        for (Answer a : server.answers) {
            if (a.id() == d[1] && a.authenticator() == authenticator) {
                send(3, s, a.row());
                return;
            }
        }
        int[] row = decide(s, server, parsed.token, parsed.packet, d[1], authenticator);
        server.answers.add(new Answer(d[1], authenticator, row));
        if (server.answers.size() > 4) {
            server.answers.remove(0);
        }
        send(3, s, row);
    }

    private int[] decide(int s, Radius server, int token, int[] p, int id, int authenticator) {
        Visit visit = null;
        for (Visit v : server.visits) {
            if (v.number == token) {
                visit = v;
            }
        }
        int[] content = null;
        int[] data = p.length > 3 ? Wire.part(p, 4) : new int[0];
        boolean accept = false;
        Visit asked = visit;
        if (p[0] == 2 && p[3] == 1) {
            if (data.length == 1 && data[0] < 8 && keys[data[0]] != null) {
                asked = new Visit();
                asked.number = server.began++ % 65536;
                asked.user = data[0];
                server.visits.add(asked);
                if (server.visits.size() > 4) {
                    server.visits.remove(0);
                }
                content = begin(s, server, asked, methods[data[0]] == 2);
            }
        } else if (p[0] == 2 && visit != null && visit.awaits == p[1]) {
            boolean may = p[3] == 3 && data.length == 1 && !visit.begun.contains(data[0])
                && (data[0] == 4 && methods[visit.user] != 2 || data[0] == 51 && methods[visit.user] != 1);
            if (may) {
                content = begin(s, server, visit, data[0] == 51);
            } else {
                content = mutualProof(visit, p[3], data);
                accept = content == null && proved(visit, p, data);
            }
        }
        if (content != null) {
            asked.awaits = (p[1] + 1) % 256;
            return Wire.answer(key, 11, id, authenticator, asked.number, Wire.packet(1, asked.awaits, content));
        }
        server.visits.remove(visit);
        return Wire.answer(key, accept ? 2 : 3, id, authenticator, -1, Wire.packet(accept ? 3 : 4, p[1]));
    }

    private int[] begin(int s, Radius server, Visit visit, boolean mutual) {
        visit.mutual = mutual;
        visit.begun.add(mutual ? 51 : 4);
        int random = Wire.hash(Wire.four(keys[visit.user]), Wire.row(s), Wire.four(server.randoms++));
        visit.random = Wire.four(random);
        return Wire.cat(mutual ? Wire.row(51, 1) : Wire.row(4), visit.random);
    }

    private int[] mutualProof(Visit visit, int type, int[] data) {
        if (!visit.mutual || visit.theirs != null || type != 51 || data.length != 9 || data[0] != 2) {
            return null;
        }
        int[] theirs = Arrays.copyOfRange(data, 1, 5);
        if (Wire.number(data, 5) != Wire.mac(keys[visit.user], Wire.row(2), visit.random, theirs)) {
            return null;
        }
        visit.theirs = theirs;
        return Wire.cat(Wire.row(51, 3), Wire.four(Wire.mac(keys[visit.user], Wire.row(3), theirs, visit.random)));
    }

    private boolean proved(Visit visit, int[] p, int[] data) {
        int[] k = Wire.four(keys[visit.user]);
        if (!visit.mutual) {
            return p[3] == 4 && Arrays.equals(data, Wire.four(Wire.hash(Wire.row(p[1]), k, visit.random)));
        }
        return visit.theirs != null && p[3] == 51 && Arrays.equals(data, Wire.cat(Wire.row(4),
            Wire.four(Wire.mac(keys[visit.user], Wire.row(4), visit.random, visit.theirs))));
    }

    // the switch

    private void sendPacket(int p, int[] packet) {
        send(1, p, Wire.frame(packet));
        gates[p].next = (packet[1] + 1) % 256;
    }

    private void await(int p, int[] packet) {
        sendPacket(p, packet);
        gates[p].last = packet;
        gates[p].awaited = true;
        gates[p].again = 0;
        gates[p].clock = 0;
    }

    private void begin(int p) {
        gates[p].state = 1;
        gates[p].query = null;
        gates[p].token = -1;
        await(p, Wire.packet(1, gates[p].next, 1));
    }

    private void close(int p) {
        gates[p].authorised = false;
        for (int a = 0; a < 8; a++) {
            learned[a] = learned[a] == p ? -1 : learned[a];
        }
    }

    private void fail(int p) {
        close(p);
        gates[p].state = 4;
        gates[p].query = null;
        gates[p].awaited = false;
        gates[p].clock = 0;
    }

    private void ask(int p, int server, boolean second) {
        Gate g = gates[p];
        g.query = Wire.request(key, requests % 256, Wire.authenticator(key, requests), g.user, g.token, g.packet);
        requests++;
        g.server = server;
        g.second = second;
        g.tries = 1;
        g.clock = 0;
        send(2, server, g.query);
    }

    private void fromHost(int p, int[] row) {
        Gate g = gates[p];
        if (!g.link || g.state == 4) {
            return;
        }
        int[] packet = framed(row);
        if (packet == null) {
            wrong[0]++;
        } else if (packet.length == 0) {
            if (row[0] == 2) {
                close(p);
            }
            begin(p);
        } else if (packet[0] == 2 && g.awaited && packet[1] == g.last[1]) {
            boolean identity = packet[3] == 1 && packet.length == 5;
            if (g.state == 1 && !identity) {
                return;
            }
            if (g.state == 1) {
                g.user = packet[4];
                g.state = 2;
            }
            g.awaited = false;
            g.packet = packet;
            ask(p, favourite, false);
        }
    }

    private void fromServer(int s, int[] d) {
        Parsed parsed = parse(d);
        int p = -1;
        for (int i = 3; i >= 0 && parsed != null; i--) {
            if (gates[i].query != null && gates[i].server == s && gates[i].query[1] == d[1]) {
                p = i;
            }
        }
        if (p < 0 || !genuine(d, parsed, gates[p].query)) {
            wrong[0]++;
            return;
        }
        Gate g = gates[p];
        g.query = null;
        favourite = s;
        if (d[0] == 11) {
            g.token = parsed.token;
            await(p, parsed.packet);
            return;
        }
        sendPacket(p, parsed.packet);
        if (d[0] == 3) {
            fail(p);
            return;
        }
        g.state = 3;
        g.clock = 0;
        if (!g.authorised) {
            g.visits++;
            g.traffic = 0;
        }
        g.authorised = true;
    }

    private boolean genuine(int[] d, Parsed parsed, int[] query) {
        int pair = d[0] * 100 + parsed.packet[0];
        if (pair != 1101 && pair != 203 && pair != 304) {
            return false;
        }
        int[] sealed = Wire.sealed(key, Wire.with(d, 3, Arrays.copyOfRange(query, 3, 7)), parsed.seal);
        return Arrays.equals(d, Wire.authenticated(key, sealed));
    }

    private void tick(int p) {
        Gate g = gates[p];
        g.clock++;
        if (g.awaited && g.clock == 5) {
            if (g.again < 2) {
                sendPacket(p, g.last);
                g.clock = 0;
                g.again++;
            } else {
                if (g.state == 2) {
                    close(p);
                }
                begin(p);
            }
        } else if (g.query != null && g.clock == 4) {
            if (g.tries == 1) {
                send(2, g.server, g.query);
                g.tries = 2;
                g.clock = 0;
            } else if (!g.second) {
                ask(p, g.server == 0 ? 1 : 0, true);
            } else {
                sendPacket(p, Wire.packet(4, g.last[1]));
                fail(p);
            }
        } else if (g.state == 3 && g.clock == 30 || g.state == 4 && g.clock == 6) {
            begin(p);
        }
    }

    // the face

    @Override
    public boolean user(int u, int k, int m) {
        if (u < 0 || u > 7 || m < 1 || m > 3) {
            return false;
        }
        keys[u] = k;
        methods[u] = m;
        return true;
    }

    private static void forget(Station host) {
        host.latest = null;
        host.theirs = null;
        host.proof = false;
        host.result = 0;
    }

    @Override
    public boolean host(int h, int u, int k, int m) {
        if (h < 0 || h > 3 || u < -1 || u > 7 || m < 0 || m > 3) {
            return false;
        }
        forget(hosts[h]);
        hosts[h].user = u;
        hosts[h].key = k;
        hosts[h].methods = m;
        return true;
    }

    @Override
    public boolean start(int h, boolean on) {
        if (h < 0 || h > 3 || hosts[h].user < 0) {
            return false;
        }
        forget(hosts[h]);
        send(0, h, Wire.row(on ? 1 : 2));
        return true;
    }

    @Override
    public boolean link(int p, boolean on) {
        if (p < 0 || p > 3 || gates[p].link == on) {
            return false;
        }
        gates[p].link = on;
        if (on) {
            begin(p);
        } else {
            close(p);
            gates[p].state = 0;
            gates[p].query = null;
            gates[p].awaited = false;
        }
        return true;
    }

    @Override
    public boolean power(int s, boolean on) {
        if (s < 0 || s > 1 || servers[s].up == on) {
            return false;
        }
        servers[s].up = on;
        if (!on) {
            servers[s].visits.clear();
            servers[s].answers.clear();
        }
        return true;
    }

    @Override
    public boolean pass(int k, int how) {
        if (k < 0 || k >= waiting.size() || how < 0 || how > 2) {
            return false;
        }
        Message m = how == 2 ? waiting.get(k) : waiting.remove(k);
        if (how == 2) {
            send(m.way(), m.place(), m.row());
        } else if (how == 0 && m.way() == 0) {
            fromHost(m.place(), m.row());
        } else if (how == 0 && m.way() == 1) {
            toHost(m.place(), m.row());
        } else if (how == 0 && m.way() == 2) {
            toServer(m.place(), m.row());
        } else if (how == 0) {
            fromServer(m.place(), m.row());
        }
        return true;
    }

    @Override
    public boolean alter(int k, int i, int x) {
        if (k < 0 || k >= waiting.size() || i < 0 || i >= waiting.get(k).row().length) {
            return false;
        }
        Message m = waiting.get(k);
        waiting.set(k, new Message(m.way(), m.place(), Wire.with(m.row(), i, Wire.row(m.row()[i] ^ x & 255))));
        return true;
    }

    @Override
    public boolean draft(long v, int n) {
        if (n < 1 || n > 8 || draft.length + n > 48) {
            return false;
        }
        for (long rest = v, i = 0; i < n; rest >>= 8, i++) {
            draft = Wire.cat(draft, Wire.row((int) (rest & 255)));
        }
        return true;
    }

    @Override
    public boolean forge(int way, int place) {
        if (way < 0 || way > 3 || place < 0 || place > (way < 2 ? 3 : 1) || draft.length == 0) {
            return false;
        }
        send(way, place, draft);
        draft = new int[0];
        return true;
    }

    @Override
    public int tick() {
        for (int p = 0; p < 4; p++) {
            if (gates[p].link) {
                tick(p);
            }
        }
        return waiting.size();
    }

    @Override
    public int data(int p, int from, int to) {
        if (p < 0 || p > 3 || from < 0 || from > 7 || to < 0 || to > 8) {
            return -1;
        }
        if (!gates[p].authorised) {
            return 0;
        }
        learned[from] = p;
        gates[p].traffic++;
        if (to < 8 && learned[to] >= 0) {
            return gates[learned[to]].authorised && learned[to] != p ? 1 << learned[to] : 0;
        }
        int sum = 0;
        for (int q = 0; q < 4; q++) {
            sum += gates[q].authorised && q != p ? 1 << q : 0;
        }
        return sum;
    }

    @Override
    public int waiting() {
        return waiting.size();
    }

    @Override
    public int message(int k, int what) {
        if (k < 0 || k >= waiting.size() || what < 0) {
            return -1;
        }
        Message m = waiting.get(k);
        int[] told = Wire.cat(Wire.row(m.way(), m.place(), m.row().length), m.row());
        return what < told.length ? told[what] : -1;
    }

    private static int told(int what, int... told) {
        return what >= 0 && what < told.length ? told[what] : -2;
    }

    @Override
    public int port(int p, int what) {
        if (p < 0 || p > 3) {
            return -2;
        }
        Gate g = gates[p];
        boolean query = g.query != null;
        return told(what, g.state, g.authorised ? 1 : 0, g.awaited ? 1 : 0, g.again, g.clock, query ? g.server : -1,
            query ? g.tries : 0, g.user, g.token, g.visits, g.traffic, g.next);
    }

    @Override
    public int station(int h, int what) {
        if (h < 0 || h > 3) {
            return -2;
        }
        Station s = hosts[h];
        return told(what, s.result, s.proof ? 1 : 0, s.latest == null ? -1 : s.latest[1], s.user, s.randoms);
    }

    @Override
    public int server(int s, int what) {
        if (s < 0 || s > 1) {
            return -2;
        }
        return told(what, servers[s].up ? 1 : 0, servers[s].visits.size(), servers[s].began, servers[s].randoms);
    }

    @Override
    public int wrong(int who) {
        return who >= 0 && who < 3 ? wrong[who] : -1;
    }

    @Override
    public int learned(int address) {
        return address >= 0 && address < 8 ? learned[address] : -1;
    }

    @Override
    public int favourite() {
        return favourite;
    }
}
