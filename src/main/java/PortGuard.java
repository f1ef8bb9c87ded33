import java.util.Arrays;

/**
 * A switch that lets hosts through its ports when a server has proved who they are.
 * The document (../shared/DOC.md) says what every call answers; its terms are used here as names.
 */
public final class PortGuard {
    private static final int USERS = 8;
    private static final int PORTS = 4;
    private static final int SERVERS = 2;
    private static final int ADDRESSES = 8;
    private static final int TO_ALL = 8;

    // The longest draft has 48 bytes, and nothing that the program makes itself is longer.
    private static final int ROOM = 48;
    private static final int MOST_WAITING = 40;

    private static final int WAY_TO_SWITCH = 0;
    private static final int WAY_TO_HOST = 1;
    private static final int WAY_TO_SERVER = 2;
    private static final int WAY_FROM_SERVER = 3;

    private static final int REQUEST = 1;
    private static final int RESPONSE = 2;
    private static final int SUCCESS = 3;
    private static final int FAILURE = 4;

    private static final int TYPE_IDENTITY = 1;
    private static final int TYPE_REFUSAL = 3;
    private static final int TYPE_CHALLENGE = 4;
    private static final int TYPE_MUTUAL = 51;

    private static final int CHALLENGE = 1;
    private static final int MUTUAL = 2;

    private static final int FRAME_PACKET = 0;
    private static final int FRAME_START = 1;
    private static final int FRAME_LOGOFF = 2;
    private static final int FRAME_WRONG = -1;

    private static final int ASK = 1;
    private static final int ACCEPT = 2;
    private static final int REJECT = 3;
    private static final int CONTINUE = 11;

    private static final int NONE = -1;
    private static final int NO_SUCH = -2;

    private final Users users;
    private final Mailbox mail;
    private final Host[] hosts;
    private final Server[] servers;
    private final Switch guard;
    private final Row drafted;
    private final Row arrived;

    public PortGuard(int shared) {
        users = new Users();
        mail = new Mailbox();
        hosts = new Host[PORTS];
        for (int h = 0; h < PORTS; h++) {
            hosts[h] = new Host(h, mail);
        }
        servers = new Server[SERVERS];
        for (int s = 0; s < SERVERS; s++) {
            servers[s] = new Server(s, shared, users, mail);
        }
        guard = new Switch(shared, mail);
        drafted = new Row();
        arrived = new Row();
    }

    public boolean user(int u, int key, int methods) {
        if (u < 0 || u >= USERS || methods < 1 || methods > 3) {
            return false;
        }
        users.keys[u] = key;
        users.methods[u] = methods;
        return true;
    }

    public boolean host(int h, int u, int key, int methods) {
        if (!isPort(h) || u < NONE || u >= USERS || methods < 0 || methods > 3) {
            return false;
        }
        hosts[h].become(u, key, methods);
        return true;
    }

    public boolean start(int h, boolean on) {
        if (!isPort(h) || hosts[h].user == NONE) {
            return false;
        }
        hosts[h].call(on ? FRAME_START : FRAME_LOGOFF);
        return true;
    }

    public boolean link(int p, boolean on) {
        if (!isPort(p) || guard.ports[p].linked == on) {
            return false;
        }
        if (on) {
            guard.plug(guard.ports[p]);
        } else {
            guard.unplug(guard.ports[p]);
        }
        return true;
    }

    public boolean power(int s, boolean on) {
        if (!isServer(s) || servers[s].up == on) {
            return false;
        }
        servers[s].turn(on);
        return true;
    }

    public boolean pass(int k, int how) {
        if (!mail.has(k) || how < 0 || how > 2) {
            return false;
        }
        int way = mail.ways[k];
        int place = mail.places[k];
        arrived.copy(mail.rows[k]);
        if (how == 2) {
            mail.send(way, place, arrived);
            return true;
        }
        mail.drop(k);
        if (how == 1) {
            return true;
        }
        switch (way) {
            case WAY_TO_SWITCH:
                guard.takeFrame(guard.ports[place], arrived);
                break;
            case WAY_TO_HOST:
                hosts[place].takeFrame(arrived);
                break;
            case WAY_TO_SERVER:
                servers[place].takeRequest(arrived);
                break;
            default:
                guard.takeAnswer(place, arrived);
                break;
        }
        return true;
    }

    public boolean alter(int k, int i, int x) {
        if (!mail.has(k) || i < 0 || i >= mail.rows[k].size) {
            return false;
        }
        Row row = mail.rows[k];
        row.set(i, row.at(i) ^ (x & 255));
        return true;
    }

    public boolean draft(long v, int n) {
        if (n < 1 || n > 8 || drafted.size + n > ROOM) {
            return false;
        }
        for (int i = 0; i < n; i++) {
            drafted.put((int) (v >>> (8 * i)));
        }
        return true;
    }

    public boolean forge(int way, int place) {
        if (!isPlace(way, place) || drafted.size == 0) {
            return false;
        }
        mail.send(way, place, drafted);
        drafted.clear();
        return true;
    }

    public int tick() {
        for (int p = 0; p < PORTS; p++) {
            guard.pulse(guard.ports[p]);
        }
        return mail.count;
    }

    public int data(int p, int from, int to) {
        if (!isPort(p) || from < 0 || from >= ADDRESSES || to < 0 || to > TO_ALL) {
            return -1;
        }
        return guard.carry(guard.ports[p], from, to);
    }

    public int waiting() {
        return mail.count;
    }

    public int message(int k, int what) {
        if (!mail.has(k) || what < 0) {
            return -1;
        }
        switch (what) {
            case 0:
                return mail.ways[k];
            case 1:
                return mail.places[k];
            case 2:
                return mail.rows[k].size;
            default:
                return mail.rows[k].at(what - 3);
        }
    }

    public int port(int p, int what) {
        return isPort(p) ? guard.ports[p].tell(what) : NO_SUCH;
    }

    public int station(int h, int what) {
        return isPort(h) ? hosts[h].tell(what) : NO_SUCH;
    }

    public int server(int s, int what) {
        return isServer(s) ? servers[s].tell(what) : NO_SUCH;
    }

    public int wrong(int who) {
        int sum = 0;
        switch (who) {
            case 0:
                return guard.wrongs;
            case 1:
                for (int h = 0; h < PORTS; h++) {
                    sum += hosts[h].wrongs;
                }
                return sum;
            case 2:
                for (int s = 0; s < SERVERS; s++) {
                    sum += servers[s].wrongs;
                }
                return sum;
            default:
                return -1;
        }
    }

    public int learned(int address) {
        return address >= 0 && address < ADDRESSES ? guard.learnedAt[address] : NONE;
    }

    public int favourite() {
        return guard.favourite;
    }

    private static boolean isPort(int p) {
        return p >= 0 && p < PORTS;
    }

    private static boolean isServer(int s) {
        return s >= 0 && s < SERVERS;
    }

    private static boolean isPlace(int way, int place) {
        if (way == WAY_TO_SWITCH || way == WAY_TO_HOST) {
            return isPort(place);
        }
        return (way == WAY_TO_SERVER || way == WAY_FROM_SERVER) && isServer(place);
    }

    /** HASH and MAC, and the values that hosts and servers must reckon alike. */
    private static final class Digest {
        private static final int BASE = 0x811C9DC5;
        private static final int PRIME = 16777619;
        private static final int INNER = 54;
        private static final int OUTER = 92;

        static int addByte(int h, int b) {
            return (h ^ (b & 255)) * PRIME;
        }

        static int addInt(int h, int v) {
            int sum = h;
            for (int shift = 24; shift >= 0; shift -= 8) {
                sum = (sum ^ ((v >>> shift) & 255)) * PRIME;
            }
            return sum;
        }

        static int addRow(int h, Row row) {
            int sum = h;
            for (int i = 0; i < row.size; i++) {
                sum = (sum ^ row.bytes[i]) * PRIME;
            }
            return sum;
        }

        static int end(int h) {
            return h ^ (h >>> 15);
        }

        static int macOfRow(int key, Row row) {
            int inner = end(addRow(addByte(addInt(BASE, key), INNER), row));
            return end(addInt(addByte(addInt(BASE, key), OUTER), inner));
        }

        static int macOfProof(int key, int step, int first, int second) {
            int begun = addByte(addByte(addInt(BASE, key), INNER), step);
            int inner = end(addInt(addInt(begun, first), second));
            return end(addInt(addByte(addInt(BASE, key), OUTER), inner));
        }

        static int hashOfInts(int first, int second) {
            return end(addInt(addInt(BASE, first), second));
        }

        static int hashOfRow(Row row, int key) {
            return end(addInt(addRow(BASE, row), key));
        }

        static int random(int key, int maker, int n) {
            return end(addInt(addByte(addInt(BASE, key), maker), n));
        }

        static int challengeResponse(int id, int key, int random) {
            return end(addInt(addInt(addByte(BASE, id), key), random));
        }
    }

    /** A row of bytes in room that is made once and used again. */
    private static class Row {
        final int[] bytes = new int[ROOM];
        int size;

        void clear() {
            size = 0;
        }

        void put(int b) {
            if (size < ROOM) {
                bytes[size] = b & 255;
                size++;
            }
        }

        void putInt(int v) {
            put(v >>> 24);
            put(v >>> 16);
            put(v >>> 8);
            put(v);
        }

        /** -1 where there is no byte, so that a comparison with a byte fails there. */
        int at(int i) {
            return i >= 0 && i < size ? bytes[i] : NONE;
        }

        int intAt(int i) {
            int v = 0;
            for (int j = 0; j < 4; j++) {
                v = (v << 8) | (at(i + j) & 255);
            }
            return v;
        }

        void set(int i, int b) {
            if (i >= 0 && i < size) {
                bytes[i] = b & 255;
            }
        }

        void setInt(int i, int v) {
            set(i, v >>> 24);
            set(i + 1, v >>> 16);
            set(i + 2, v >>> 8);
            set(i + 3, v);
        }

        void copy(Row other) {
            size = other.size;
            System.arraycopy(other.bytes, 0, bytes, 0, size);
        }

        /** What is not there, or finds no room, is left out. */
        void append(Row other, int from, int count) {
            for (int i = from; i >= 0 && i < from + count && i < other.size && size < ROOM; i++) {
                bytes[size] = other.bytes[i];
                size++;
            }
        }
    }

    /** A PACKET: CODE, ID, LENGTH, and perhaps TYPE and DATA. */
    private static final class Packet extends Row {
        private static final int HEAD = 3;
        private static final int LONGEST = 20;

        boolean isRight() {
            if (size < HEAD || size > LONGEST || at(2) != size) {
                return false;
            }
            if (code() == REQUEST || code() == RESPONSE) {
                return size > HEAD;
            }
            return (code() == SUCCESS || code() == FAILURE) && size == HEAD;
        }

        int code() {
            return at(0);
        }

        int id() {
            return at(1);
        }

        int type() {
            return at(3);
        }

        int dataSize() {
            return size - HEAD - 1;
        }

        int firstData() {
            return at(HEAD + 1);
        }

        int dataIntAt(int i) {
            return intAt(HEAD + 1 + i);
        }

        void make(int code, int id) {
            clear();
            put(code);
            put(id);
            put(HEAD);
        }

        /** Its DATA is put behind it, and then its LENGTH is set. */
        void open(int code, int id, int type) {
            clear();
            put(code);
            put(id);
            put(0);
            put(type);
        }

        void setLength() {
            set(2, size);
        }

        /** Answers which FRAME the row is; the packet that it brings, if it is one, is in here then. */
        int readFrame(Row frame) {
            clear();
            if (frame.size == 1 && (frame.at(0) == FRAME_START || frame.at(0) == FRAME_LOGOFF)) {
                return frame.at(0);
            }
            if (frame.at(0) != FRAME_PACKET) {
                return FRAME_WRONG;
            }
            append(frame, 1, frame.size - 1);
            return isRight() ? FRAME_PACKET : FRAME_WRONG;
        }
    }

    /** A DATAGRAM: its bytes, and what was found in them or put there. */
    private static final class Datagram {
        private static final int HEAD = 7;
        private static final int AUTHENTICATOR_AT = 3;
        private static final int KIND_NAME = 1;
        private static final int KIND_TOKEN = 24;
        private static final int KIND_PIECE = 79;
        private static final int KIND_SEAL = 80;
        private static final int PIECE = 8;

        final Row row = new Row();
        final Packet packet = new Packet();
        boolean named;
        int token;
        int sealAt;
        int authenticator;
        int seal;

        int code() {
            return row.at(0);
        }

        int id() {
            return row.at(1);
        }

        /** Answers whether the row is a RIGHT datagram. */
        boolean read(Row source) {
            row.copy(source);
            packet.clear();
            named = false;
            token = NONE;
            sealAt = NONE;
            if (row.size < HEAD || row.at(2) != row.size || !readAttributes()) {
                return false;
            }
            authenticator = row.intAt(AUTHENTICATOR_AT);
            seal = row.intAt(sealAt);
            return packet.isRight();
        }

        private boolean readAttributes() {
            int at = HEAD;
            for (int n = 0; n < ROOM && at < row.size; n++) {
                int size = row.at(at + 1);
                if (at + size > row.size || !readAttribute(at, size)) {
                    return false;
                }
                at += size;
            }
            return sealAt != NONE;
        }

        private boolean readAttribute(int at, int size) {
            switch (row.at(at)) {
                case KIND_NAME:
                    if (size != 3 || named) {
                        return false;
                    }
                    named = true;
                    return true;
                case KIND_TOKEN:
                    if (size != 4 || token != NONE) {
                        return false;
                    }
                    token = row.at(at + 2) << 8 | row.at(at + 3);
                    return true;
                case KIND_PIECE:
                    if (size < 3 || size > PIECE + 2) {
                        return false;
                    }
                    packet.append(row, at + 2, size - 2);
                    return true;
                case KIND_SEAL:
                    if (size != 6 || sealAt != NONE) {
                        return false;
                    }
                    sealAt = at + 2;
                    return true;
                default:
                    return false;
            }
        }

        /** Must be sealed then: the seal's bytes are 0 till that. */
        void write(int code, int id, int authenticatorOfRequest, int nameOrNone, int tokenOrNone, Packet content) {
            row.clear();
            row.put(code);
            row.put(id);
            row.put(0);
            row.putInt(authenticatorOfRequest);
            if (nameOrNone != NONE) {
                row.put(KIND_NAME);
                row.put(3);
                row.put(nameOrNone);
            }
            if (tokenOrNone != NONE) {
                row.put(KIND_TOKEN);
                row.put(4);
                row.put(tokenOrNone >>> 8);
                row.put(tokenOrNone);
            }
            writePieces(content);
            row.put(KIND_SEAL);
            row.put(6);
            sealAt = row.size;
            row.putInt(0);
            row.set(2, row.size);
        }

        private void writePieces(Packet content) {
            for (int from = 0; from < content.size; from += PIECE) {
                int count = Math.min(PIECE, content.size - from);
                row.put(KIND_PIECE);
                row.put(count + 2);
                row.append(content, from, count);
            }
        }

        void sealRequest(int key) {
            row.setInt(sealAt, Digest.macOfRow(key, row));
        }

        /** Its own AUTHENTICATOR comes last: the request's, with which it was written, is sealed. */
        void sealAnswer(int key) {
            sealRequest(key);
            row.setInt(AUTHENTICATOR_AT, Digest.hashOfRow(row, key));
        }

        /** The row has the request's AUTHENTICATOR from then on; what it had is kept in the field. */
        boolean isSealed(int key, int authenticatorOfRequest) {
            row.setInt(AUTHENTICATOR_AT, authenticatorOfRequest);
            row.setInt(sealAt, 0);
            boolean right = Digest.macOfRow(key, row) == seal;
            row.setInt(sealAt, seal);
            return right;
        }

        boolean isAnswerTo(int key, int authenticatorOfRequest) {
            return isSealed(key, authenticatorOfRequest) && Digest.hashOfRow(row, key) == authenticator;
        }
    }

    /** The MESSAGES that wait, in the order in which they were sent. */
    private static final class Mailbox {
        final int[] ways = new int[MOST_WAITING];
        final int[] places = new int[MOST_WAITING];
        final Row[] rows = new Row[MOST_WAITING];
        final Row lost = new Row();
        int count;

        Mailbox() {
            for (int k = 0; k < MOST_WAITING; k++) {
                rows[k] = new Row();
            }
        }

        boolean has(int k) {
            return k >= 0 && k < count;
        }

        void send(int way, int place, Row row) {
            add(way, place).copy(row);
        }

        void sendPacket(int way, int place, Packet packet) {
            Row frame = add(way, place);
            frame.clear();
            frame.put(FRAME_PACKET);
            frame.append(packet, 0, packet.size);
        }

        void sendByte(int way, int place, int b) {
            Row frame = add(way, place);
            frame.clear();
            frame.put(b);
        }

        /** The row of a new message; where there is no room for one, a row that nobody reads. */
        private Row add(int way, int place) {
            if (count >= MOST_WAITING) {
                return lost;
            }
            ways[count] = way;
            places[count] = place;
            count++;
            return rows[count - 1];
        }

        /** The row of the one that goes moves behind the others, to be used again. */
        void drop(int k) {
            if (!has(k)) {
                return;
            }
            Row free = rows[k];
            for (int i = k; i < count - 1; i++) {
                ways[i] = ways[i + 1];
                places[i] = places[i + 1];
                rows[i] = rows[i + 1];
            }
            count--;
            rows[count] = free;
        }
    }

    /** What both servers know of the USERS; methods 0: not known. */
    private static final class Users {
        final int[] keys = new int[USERS];
        final int[] methods = new int[USERS];

        boolean knows(int u) {
            return u >= 0 && u < USERS && methods[u] != 0;
        }
    }

    /** A HOST. */
    private static final class Host {
        final int number;
        final Mailbox mail;
        final Packet packet = new Packet();
        final Packet latest = new Packet();
        int user = NONE;
        int key;
        int methods;
        boolean hasLatest;
        boolean hasTheirs;
        int theirs;
        int ours;
        boolean proof;
        int result;
        int randoms;
        int wrongs;

        Host(int number, Mailbox mail) {
            this.number = number;
            this.mail = mail;
        }

        void become(int newUser, int newKey, int newMethods) {
            user = newUser;
            key = newKey;
            methods = newMethods;
            forget();
        }

        void call(int frame) {
            forget();
            mail.sendByte(WAY_TO_SWITCH, number, frame);
        }

        private void forget() {
            hasLatest = false;
            hasTheirs = false;
            proof = false;
            result = 0;
        }

        void takeFrame(Row frame) {
            if (user == NONE) {
                return;
            }
            int kind = packet.readFrame(frame);
            if (kind == FRAME_WRONG) {
                wrongs++;
            }
            if (kind != FRAME_PACKET) {
                return;
            }
            switch (packet.code()) {
                case REQUEST:
                    if (isRepeated() || respond()) {
                        hasLatest = true;
                        mail.sendPacket(WAY_TO_SWITCH, number, latest);
                    }
                    break;
                case SUCCESS:
                    result = proof ? 1 : result;
                    break;
                case FAILURE:
                    result = 2;
                    proof = false;
                    break;
                default:
                    break;
            }
        }

        private boolean isRepeated() {
            return hasLatest && latest.id() == packet.id();
        }

        /** Answers whether there is a response, which is the latest one then. */
        private boolean respond() {
            switch (packet.type()) {
                case TYPE_IDENTITY:
                    return tellUser();
                case TYPE_CHALLENGE:
                    return (methods & CHALLENGE) != 0 ? meetChallenge() : refuse();
                case TYPE_MUTUAL:
                    if ((methods & MUTUAL) == 0) {
                        return refuse();
                    }
                    return answerRandom() || answerProof();
                default:
                    return false;
            }
        }

        private boolean tellUser() {
            proof = false;
            latest.open(RESPONSE, packet.id(), TYPE_IDENTITY);
            latest.put(user);
            latest.setLength();
            return true;
        }

        private boolean refuse() {
            latest.open(RESPONSE, packet.id(), TYPE_REFUSAL);
            if ((methods & CHALLENGE) != 0) {
                latest.put(TYPE_CHALLENGE);
            } else {
                latest.put((methods & MUTUAL) != 0 ? TYPE_MUTUAL : 0);
            }
            latest.setLength();
            return true;
        }

        private boolean meetChallenge() {
            if (packet.dataSize() != 4) {
                return false;
            }
            proof = true;
            latest.open(RESPONSE, packet.id(), TYPE_CHALLENGE);
            latest.putInt(Digest.challengeResponse(packet.id(), key, packet.dataIntAt(0)));
            latest.setLength();
            return true;
        }

        private boolean answerRandom() {
            if (packet.dataSize() != 5 || packet.firstData() != 1) {
                return false;
            }
            proof = false;
            theirs = packet.dataIntAt(1);
            hasTheirs = true;
            ours = Digest.random(key, number, randoms);
            randoms++;
            latest.open(RESPONSE, packet.id(), TYPE_MUTUAL);
            latest.put(2);
            latest.putInt(ours);
            latest.putInt(Digest.macOfProof(key, 2, theirs, ours));
            latest.setLength();
            return true;
        }

        private boolean answerProof() {
            if (packet.dataSize() != 5 || packet.firstData() != 3 || !hasTheirs
                    || packet.dataIntAt(1) != Digest.macOfProof(key, 3, ours, theirs)) {
                return false;
            }
            proof = true;
            latest.open(RESPONSE, packet.id(), TYPE_MUTUAL);
            latest.put(4);
            latest.putInt(Digest.macOfProof(key, 4, theirs, ours));
            latest.setLength();
            return true;
        }

        int tell(int what) {
            switch (what) {
                case 0:
                    return result;
                case 1:
                    return proof ? 1 : 0;
                case 2:
                    return hasLatest ? latest.id() : NONE;
                case 3:
                    return user;
                case 4:
                    return randoms;
                default:
                    return NO_SUCH;
            }
        }
    }

    /** A SESSION of a server; begun: the sum of the methods that began in it. */
    private static final class Session {
        int number;
        int user;
        int method;
        int begun;
        int awaited;
        int random;
        int theirs;
        boolean proofSent;
    }

    /** A SERVER. */
    private static final class Server {
        private static final int SESSIONS = 4;
        private static final int ANSWERS = 4;

        final int number;
        final int key;
        final Users users;
        final Mailbox mail;
        final Session[] sessions = new Session[SESSIONS];
        final int[] answeredIds = new int[ANSWERS];
        final int[] answeredAuthenticators = new int[ANSWERS];
        final Row[] answers = new Row[ANSWERS];
        final Datagram request = new Datagram();
        final Datagram reply = new Datagram();
        final Packet content = new Packet();
        int replyCode;
        int replyToken;
        boolean up = true;
        int sessionCount;
        int began;
        int randoms;
        int answersKept;
        int nextAnswer;
        int wrongs;

        Server(int number, int key, Users users, Mailbox mail) {
            this.number = number;
            this.key = key;
            this.users = users;
            this.mail = mail;
            for (int i = 0; i < SESSIONS; i++) {
                sessions[i] = new Session();
            }
            for (int i = 0; i < ANSWERS; i++) {
                answers[i] = new Row();
            }
        }

        void turn(boolean on) {
            up = on;
            sessionCount = 0;
            answersKept = 0;
            nextAnswer = 0;
        }

        void takeRequest(Row row) {
            if (!up) {
                return;
            }
            if (!accepts(row)) {
                wrongs++;
                return;
            }
            int slot = slotOfRequest();
            if (slot == NONE) {
                decide(request.packet);
                slot = keepAnswer();
            }
            mail.send(WAY_FROM_SERVER, number, answers[slot]);
        }

        private boolean accepts(Row row) {
            return request.read(row) && request.code() == ASK && request.named
                && request.isSealed(key, request.authenticator);
        }

        private int slotOfRequest() {
            for (int i = 0; i < answersKept; i++) {
                if (answeredIds[i] == request.id() && answeredAuthenticators[i] == request.authenticator) {
                    return i;
                }
            }
            return NONE;
        }

        private int keepAnswer() {
            int slot = nextAnswer;
            reply.write(replyCode, request.id(), request.authenticator, NONE, replyToken, content);
            reply.sealAnswer(key);
            answeredIds[slot] = request.id();
            answeredAuthenticators[slot] = request.authenticator;
            answers[slot].copy(reply.row);
            nextAnswer = (slot + 1) % ANSWERS;
            answersKept = Math.min(answersKept + 1, ANSWERS);
            return slot;
        }

        private void decide(Packet packet) {
            Session session = sessionNumbered(request.token);
            boolean done = false;
            if (packet.code() == RESPONSE && packet.type() == TYPE_IDENTITY) {
                done = openSession(packet);
            } else if (packet.code() == RESPONSE && session != null && packet.id() == session.awaited) {
                done = proceed(session, packet);
            }
            if (!done) {
                finish(REJECT, FAILURE, session);
            }
        }

        private Session sessionNumbered(int token) {
            for (int i = 0; i < sessionCount; i++) {
                if (sessions[i].number == token) {
                    return sessions[i];
                }
            }
            return null;
        }

        private boolean openSession(Packet packet) {
            int user = packet.firstData();
            if (packet.dataSize() != 1 || !users.knows(user)) {
                return false;
            }
            if (sessionCount == SESSIONS) {
                dropSession(sessions[0]);
            }
            Session session = sessions[sessionCount];
            sessionCount++;
            session.number = began & 0xFFFF;
            began++;
            session.user = user;
            session.begun = 0;
            session.proofSent = false;
            beginMethod(session, (users.methods[user] & CHALLENGE) != 0 ? CHALLENGE : MUTUAL);
            return true;
        }

        /** The session that goes moves behind the others, to be used again. */
        private void dropSession(Session session) {
            boolean found = false;
            for (int i = 0; i < sessionCount; i++) {
                found = found || sessions[i] == session;
                if (found && i + 1 < sessionCount) {
                    sessions[i] = sessions[i + 1];
                }
            }
            if (found) {
                sessionCount--;
                sessions[sessionCount] = session;
            }
        }

        private void beginMethod(Session session, int method) {
            session.method = method;
            session.begun |= method;
            session.random = Digest.random(users.keys[session.user], number, randoms);
            randoms++;
            if (method == CHALLENGE) {
                openRequest(session, TYPE_CHALLENGE);
            } else {
                openRequest(session, TYPE_MUTUAL);
                content.put(1);
            }
            content.putInt(session.random);
            content.setLength();
        }

        private void openRequest(Session session, int type) {
            replyCode = CONTINUE;
            replyToken = session.number;
            session.awaited = (request.packet.id() + 1) & 255;
            content.open(REQUEST, session.awaited, type);
        }

        private void finish(int code, int packetCode, Session session) {
            replyCode = code;
            replyToken = NONE;
            content.make(packetCode, request.packet.id());
            if (session != null) {
                dropSession(session);
            }
        }

        /** Answers false where the response is to be rejected. */
        private boolean proceed(Session session, Packet packet) {
            switch (packet.type()) {
                case TYPE_REFUSAL:
                    int method = methodWanted(session, packet);
                    if (method != 0) {
                        beginMethod(session, method);
                    }
                    return method != 0;
                case TYPE_CHALLENGE:
                    return session.method == CHALLENGE && takeChallengeResponse(session, packet);
                case TYPE_MUTUAL:
                    if (session.method != MUTUAL) {
                        return false;
                    }
                    return session.proofSent ? takeLastProof(session, packet) : takeFirstProof(session, packet);
                default:
                    return false;
            }
        }

        /** The method that a refusal asks for; 0 if it may not begin in this session. */
        private int methodWanted(Session session, Packet packet) {
            if (packet.dataSize() != 1) {
                return 0;
            }
            int open = users.methods[session.user] & ~session.begun;
            switch (packet.firstData()) {
                case TYPE_CHALLENGE:
                    return open & CHALLENGE;
                case TYPE_MUTUAL:
                    return open & MUTUAL;
                default:
                    return 0;
            }
        }

        private boolean takeChallengeResponse(Session session, Packet packet) {
            int due = Digest.challengeResponse(packet.id(), users.keys[session.user], session.random);
            if (packet.dataSize() != 4 || packet.dataIntAt(0) != due) {
                return false;
            }
            finish(ACCEPT, SUCCESS, session);
            return true;
        }

        private boolean takeFirstProof(Session session, Packet packet) {
            int userKey = users.keys[session.user];
            int theirs = packet.dataIntAt(1);
            if (packet.dataSize() != 9 || packet.firstData() != 2
                    || packet.dataIntAt(5) != Digest.macOfProof(userKey, 2, session.random, theirs)) {
                return false;
            }
            session.theirs = theirs;
            session.proofSent = true;
            openRequest(session, TYPE_MUTUAL);
            content.put(3);
            content.putInt(Digest.macOfProof(userKey, 3, theirs, session.random));
            content.setLength();
            return true;
        }

        private boolean takeLastProof(Session session, Packet packet) {
            int due = Digest.macOfProof(users.keys[session.user], 4, session.random, session.theirs);
            if (packet.dataSize() != 5 || packet.firstData() != 4 || packet.dataIntAt(1) != due) {
                return false;
            }
            finish(ACCEPT, SUCCESS, session);
            return true;
        }

        int tell(int what) {
            switch (what) {
                case 0:
                    return up ? 1 : 0;
                case 1:
                    return sessionCount;
                case 2:
                    return began;
                case 3:
                    return randoms;
                default:
                    return NO_SUCH;
            }
        }
    }

    /** A PORT of the switch; TRIES 0: it has no query. */
    private static final class Port {
        private static final int OFF = 0;
        private static final int ASKING = 1;
        private static final int WORKING = 2;
        private static final int OPEN = 3;
        private static final int HELD = 4;

        final int number;
        final Packet last = new Packet();
        final Packet asked = new Packet();
        final Row query = new Row();
        boolean linked;
        int state = OFF;
        boolean authorised;
        int clock;
        boolean awaited;
        int again;
        int user = NONE;
        int token = NONE;
        int tries;
        int server;
        boolean second;
        int visits;
        int traffic;
        int nextId;

        Port(int number) {
            this.number = number;
        }

        /** LAST was sent for the first time. */
        void expectResponse() {
            awaited = true;
            again = 0;
            clock = 0;
        }

        int tell(int what) {
            switch (what) {
                case 0:
                    return state;
                case 1:
                    return authorised ? 1 : 0;
                case 2:
                    return awaited ? 1 : 0;
                case 3:
                    return again;
                case 4:
                    return clock;
                case 5:
                    return tries > 0 ? server : NONE;
                case 6:
                    return tries;
                case 7:
                    return user;
                case 8:
                    return token;
                case 9:
                    return visits;
                case 10:
                    return traffic;
                case 11:
                    return nextId;
                default:
                    return NO_SUCH;
            }
        }
    }

    /** The switch, with the bridge in it. */
    private static final class Switch {
        private static final int RESEND_AT = 5;
        private static final int RESENDS = 2;
        private static final int RETRY_AT = 4;
        private static final int RENEW_AT = 30;
        private static final int RELEASE_AT = 6;

        final int key;
        final Mailbox mail;
        final Port[] ports = new Port[PORTS];
        final int[] learnedAt = new int[ADDRESSES];
        final Packet packet = new Packet();
        final Datagram answer = new Datagram();
        final Datagram request = new Datagram();
        int requests;
        int favourite;
        int wrongs;

        Switch(int key, Mailbox mail) {
            this.key = key;
            this.mail = mail;
            for (int p = 0; p < PORTS; p++) {
                ports[p] = new Port(p);
            }
            Arrays.fill(learnedAt, NONE);
        }

        void plug(Port port) {
            port.linked = true;
            begin(port);
        }

        void unplug(Port port) {
            port.linked = false;
            close(port);
            port.state = Port.OFF;
            port.tries = 0;
            port.awaited = false;
        }

        private void begin(Port port) {
            port.state = Port.ASKING;
            port.tries = 0;
            port.token = NONE;
            port.last.open(REQUEST, port.nextId, TYPE_IDENTITY);
            port.last.setLength();
            sendToHost(port, port.last);
            port.expectResponse();
        }

        private void sendToHost(Port port, Packet sent) {
            mail.sendPacket(WAY_TO_HOST, port.number, sent);
            port.nextId = (sent.id() + 1) & 255;
        }

        private void close(Port port) {
            port.authorised = false;
            for (int a = 0; a < ADDRESSES; a++) {
                if (learnedAt[a] == port.number) {
                    learnedAt[a] = NONE;
                }
            }
        }

        private void fail(Port port) {
            close(port);
            port.state = Port.HELD;
            port.tries = 0;
            port.awaited = false;
            port.clock = 0;
        }

        private void ask(Port port, int server) {
            request.write(ASK, requests & 255, Digest.hashOfInts(key, requests), port.user, port.token, port.asked);
            request.sealRequest(key);
            requests++;
            port.query.copy(request.row);
            port.server = server;
            port.tries = 1;
            port.clock = 0;
            mail.send(WAY_TO_SERVER, server, port.query);
        }

        void takeFrame(Port port, Row frame) {
            if (!port.linked || port.state == Port.HELD) {
                return;
            }
            switch (packet.readFrame(frame)) {
                case FRAME_START:
                    begin(port);
                    break;
                case FRAME_LOGOFF:
                    close(port);
                    begin(port);
                    break;
                case FRAME_PACKET:
                    takePacket(port);
                    break;
                default:
                    wrongs++;
                    break;
            }
        }

        private void takePacket(Port port) {
            if (packet.code() != RESPONSE || !port.awaited || packet.id() != port.last.id()) {
                return;
            }
            if (port.state == Port.ASKING) {
                if (packet.type() != TYPE_IDENTITY || packet.dataSize() != 1) {
                    return;
                }
                port.user = packet.firstData();
                port.state = Port.WORKING;
            }
            port.awaited = false;
            port.asked.copy(packet);
            port.second = false;
            ask(port, favourite);
        }

        void takeAnswer(int server, Row row) {
            Port port = answer.read(row) ? portAwaiting(server, answer.id()) : null;
            if (port == null || !fits() || !answer.isAnswerTo(key, port.query.intAt(Datagram.AUTHENTICATOR_AT))) {
                wrongs++;
                return;
            }
            port.tries = 0;
            favourite = server;
            if (answer.code() == CONTINUE) {
                port.token = answer.token;
                port.last.copy(answer.packet);
                sendToHost(port, port.last);
                port.expectResponse();
                return;
            }
            sendToHost(port, answer.packet);
            if (answer.code() == ACCEPT) {
                admit(port);
            } else {
                fail(port);
            }
        }

        private Port portAwaiting(int server, int id) {
            for (int p = 0; p < PORTS; p++) {
                Port port = ports[p];
                if (port.tries > 0 && port.server == server && port.query.at(1) == id) {
                    return port;
                }
            }
            return null;
        }

        private boolean fits() {
            int content = answer.packet.code();
            switch (answer.code()) {
                case CONTINUE:
                    return content == REQUEST;
                case ACCEPT:
                    return content == SUCCESS;
                case REJECT:
                    return content == FAILURE;
                default:
                    return false;
            }
        }

        private void admit(Port port) {
            port.state = Port.OPEN;
            port.clock = 0;
            if (!port.authorised) {
                port.authorised = true;
                port.visits++;
                port.traffic = 0;
            }
        }

        /** What a TICK does at one port. */
        void pulse(Port port) {
            if (!port.linked) {
                return;
            }
            port.clock++;
            if (port.awaited) {
                if (port.clock == RESEND_AT) {
                    resend(port);
                }
            } else if (port.tries > 0) {
                if (port.clock == RETRY_AT) {
                    retry(port);
                }
            } else if (port.state == Port.OPEN && port.clock == RENEW_AT) {
                begin(port);
            } else if (port.state == Port.HELD && port.clock == RELEASE_AT) {
                begin(port);
            }
        }

        private void resend(Port port) {
            if (port.again < RESENDS) {
                sendToHost(port, port.last);
                port.clock = 0;
                port.again++;
                return;
            }
            if (port.state == Port.WORKING) {
                close(port);
            }
            begin(port);
        }

        private void retry(Port port) {
            if (port.tries == 1) {
                mail.send(WAY_TO_SERVER, port.server, port.query);
                port.tries = 2;
                port.clock = 0;
            } else if (!port.second) {
                port.second = true;
                ask(port, 1 - port.server);
            } else {
                packet.make(FAILURE, port.last.id());
                sendToHost(port, packet);
                fail(port);
            }
        }

        int carry(Port port, int from, int to) {
            if (!port.authorised) {
                return 0;
            }
            learnedAt[from] = port.number;
            port.traffic++;
            int target = to == TO_ALL ? NONE : learnedAt[to];
            int sum = 0;
            for (int p = 0; p < PORTS; p++) {
                boolean meant = target == NONE || target == p;
                if (meant && p != port.number && ports[p].authorised) {
                    sum |= 1 << p;
                }
            }
            return sum;
        }
    }
}
