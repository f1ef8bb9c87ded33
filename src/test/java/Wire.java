/** The document's bytes, written a second time and in another way than in the program. */
final class Wire {
    private Wire() {
    }

    static int[] row(int... bytes) {
        return bytes;
    }

    static int[] four(int v) {
        return new int[] {v >>> 24, v >>> 16 & 255, v >>> 8 & 255, v & 255};
    }

    static int number(int[] row, int at) {
        return row[at] << 24 | row[at + 1] << 16 | row[at + 2] << 8 | row[at + 3];
    }

    static int[] cat(int[]... rows) {
        return java.util.stream.Stream.of(rows).flatMapToInt(java.util.stream.IntStream::of).toArray();
    }

    static int[] part(int[] row, int from) {
        return java.util.Arrays.copyOfRange(row, from, row.length);
    }

    static int[] with(int[] row, int at, int[] bytes) {
        int[] changed = row.clone();
        System.arraycopy(bytes, 0, changed, at, bytes.length);
        return changed;
    }

    static int fnv(int... bytes) {
        long h = 0x811C9DC5L;
        for (int b : bytes) {
            h = (h ^ b) * 16777619L & 0xFFFFFFFFL;
        }
        return (int) h;
    }

    static int hash(int[]... rows) {
        int h = fnv(cat(rows));
        return h ^ h >>> 15;
    }

    static int mac(int key, int[]... rows) {
        return hash(four(key), row(92), four(hash(four(key), row(54), cat(rows))));
    }

    static int[] packet(int code, int id, int... typeAndData) {
        return cat(row(code, id, 3 + typeAndData.length), typeAndData);
    }

    static int[] frame(int[] packet) {
        return cat(row(0), packet);
    }

    static int[] pieces(int[] packet) {
        int[] all = {};
        for (int from = 0; from < packet.length; from += 8) {
            int[] value = java.util.Arrays.copyOfRange(packet, from, Math.min(from + 8, packet.length));
            all = cat(all, row(79, value.length + 2), value);
        }
        return all;
    }

    static int[] name(int user) {
        return user < 0 ? row() : row(1, 3, user);
    }

    static int[] token(int token) {
        return token < 0 ? row() : row(24, 4, token >>> 8, token & 255);
    }

    static final int[] SEAL = {80, 6, 0, 0, 0, 0};

    static int[] bare(int code, int id, int authenticator, int[]... attributes) {
        int[] all = cat(attributes);
        return cat(row(code, id, 7 + all.length), four(authenticator), all);
    }

    /** The seal stands at sealAt and is reckoned over the row as it is. */
    static int[] sealed(int key, int[] datagram, int sealAt) {
        int[] empty = with(datagram, sealAt + 2, new int[4]);
        return with(empty, sealAt + 2, four(mac(key, empty)));
    }

    static int[] request(int key, int id, int authenticator, int user, int token, int[] packet) {
        int[] bare = bare(1, id, authenticator, name(user), token(token), pieces(packet), SEAL);
        return sealed(key, bare, bare.length - 6);
    }

    static int[] answer(int key, int code, int id, int authenticator, int token, int[] packet) {
        int[] bare = bare(code, id, authenticator, token(token), pieces(packet), SEAL);
        return authenticated(key, sealed(key, bare, bare.length - 6));
    }

    /** An answer that is sealed still has the request's authenticator: it gets its own. */
    static int[] authenticated(int key, int[] sealed) {
        return with(sealed, 3, four(hash(sealed, four(key))));
    }

    static int authenticator(int key, int n) {
        return hash(four(key), four(n));
    }
}
