/** A PortGuard with what tests do again and again. */
final class Bench {
    final int key;
    final PortGuard x;

    Bench(int key) {
        this.key = key;
        x = new PortGuard(key);
    }

    int[] bytes(int k) {
        int[] row = new int[Math.max(0, x.message(k, 2))];
        for (int i = 0; i < row.length; i++) {
            row[i] = x.message(k, 3 + i);
        }
        return row;
    }

    int[] latest() {
        return bytes(x.waiting() - 1);
    }

    /** Sends a row by draft and forge. */
    void forge(int way, int place, int... row) {
        for (int b : row) {
            x.draft(b, 1);
        }
        x.forge(way, place);
    }

    /** Delivers a row at once, ahead of all that waits; what it sends is the latest message. */
    void bring(int way, int place, int... row) {
        forge(way, place, row);
        x.pass(x.waiting() - 1, 0);
    }

    void passAll() {
        for (int n = 0; n < 1000 && x.waiting() > 0; n++) {
            x.pass(0, 0);
        }
    }

    void loseAll() {
        while (x.waiting() > 0) {
            x.pass(0, 1);
        }
    }

    void ticks(int n) {
        for (int i = 0; i < n; i++) {
            x.tick();
        }
    }

    /** Port p with a link, and its host let in by a challenge; nothing waits. */
    void open(int p, int user) {
        x.user(user, 1000 + user, 1);
        x.host(p, user, 1000 + user, 1);
        x.link(p, true);
        passAll();
    }

    /** Nothing waits, and port p (with a new link) has asked the favourite server for user u. */
    void query(int p, int u) {
        x.link(p, true);
        int id = latest()[2];
        loseAll();
        bring(0, p, Wire.frame(Wire.packet(2, id, 1, u)));
    }

    /** All that can be asked of the object, but for the messages' bytes. */
    String state() {
        StringBuilder text = new StringBuilder();
        for (int p = 0; p < 4; p++) {
            text.append("\nport ").append(p).append(':');
            for (int what = 0; what < 12; what++) {
                text.append(' ').append(x.port(p, what));
            }
            text.append(" host:");
            for (int what = 0; what < 5; what++) {
                text.append(' ').append(x.station(p, what));
            }
        }
        for (int s = 0; s < 2; s++) {
            text.append("\nserver ").append(s).append(':');
            for (int what = 0; what < 4; what++) {
                text.append(' ').append(x.server(s, what));
            }
        }
        text.append("\nlearned:");
        for (int a = 0; a < 8; a++) {
            text.append(' ').append(x.learned(a));
        }
        text.append("\nwrong: ").append(x.wrong(0)).append(' ').append(x.wrong(1)).append(' ').append(x.wrong(2));
        text.append(" favourite: ").append(x.favourite());
        return text.append(" waiting: ").append(x.waiting()).toString();
    }

    String messages() {
        StringBuilder text = new StringBuilder();
        for (int k = 0; k < x.waiting(); k++) {
            text.append('\n').append(x.message(k, 0)).append(' ').append(x.message(k, 1)).append(' ');
            text.append(java.util.Arrays.toString(bytes(k)));
        }
        return text.toString();
    }
}
