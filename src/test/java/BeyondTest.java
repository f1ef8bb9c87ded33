import java.util.Arrays;

/**
 * What is counted mod 256 and mod 65536 and can't get so far within 512 calls. What an object answers after these is
 * free by the document; this program goes on as the terms say, and these tests hold it to that.
 */
public final class BeyondTest {
    private static final int KEY = 31;

    private final PortGuard x = new PortGuard(KEY);

    public static void main(String[] args) {
        new BeyondTest().idsOfRequests();
        new BeyondTest().lowestPortAlone();
        new BeyondTest().idsOfBeginnings();
        new BeyondTest().sessionNumbers();
        Check.end();
    }

    private void forge(int way, int place, int... row) {
        for (int b : row) {
            x.draft(b, 1);
        }
        x.forge(way, place);
    }

    private void bring(int way, int place, int... row) {
        forge(way, place, row);
        x.pass(x.waiting() - 1, 0);
    }

    private int[] latest() {
        int k = x.waiting() - 1;
        int[] row = new int[x.message(k, 2)];
        Arrays.setAll(row, i -> x.message(k, 3 + i));
        return row;
    }

    private void loseAll() {
        while (x.pass(0, 1)) {
            continue;
        }
    }

    /** Port p begins and asks for user u; only the request waits then. */
    private void query(int p, int u) {
        loseAll();
        x.link(p, false);
        int id = x.port(p, 11);
        x.link(p, true);
        loseAll();
        bring(0, p, Wire.frame(Wire.packet(2, id, 1, u)));
    }

    private int[] answer(int n) {
        return Wire.answer(KEY, 2, n % 256, Wire.authenticator(KEY, n), -1, Wire.packet(3, 0));
    }

    private void idsOfRequests() {
        Check.says("the next request (ID: its number n mod 256)");
        for (int n = 0; n < 515; n++) {
            query(1, 2);
            Check.due("ID of request " + n, latest()[1], n % 256);
            Check.due("its AUTHENTICATOR", Wire.number(latest(), 3), Wire.authenticator(KEY, n));
        }
        bring(3, 0, answer(514));
        Check.due("its answer is accepted", x.port(1, 0), 3);
    }

    private void lowestPortAlone() {
        Check.says("has its ID (the lowest such is looked at alone)");
        query(3, 1);
        for (int n = 1; n <= 256; n++) {
            query(1, 2);
        }
        Check.due("request 256 has the ID of request 0", latest()[1], 0);
        loseAll();
        bring(3, 0, answer(0));
        Check.due("not accepted, as port 1 is looked at alone", x.wrong(0), 1);
        Check.due("port 3 has its query still", x.port(3, 6), 1);
        bring(3, 0, answer(256));
        Check.due("port 1 is open", x.port(1, 0), 3);
        bring(3, 0, answer(0));
        Check.due("then port 3", x.port(3, 0), 3);
        Check.due("none else was wrong", x.wrong(0), 1);
    }

    private void idsOfBeginnings() {
        Check.says("the NEXT id is one more (mod 256; 0 at first)");
        x.link(0, true);
        for (int n = 1; n < 520; n++) {
            loseAll();
            bring(0, 0, 1);
            Check.due("the id of request " + n, latest()[2], n % 256);
            Check.due("the NEXT id", x.port(0, 11), (n + 1) % 256);
        }
    }

    private int[] identity(int n) {
        return Wire.request(KEY, n & 255, n, 0, -1, Wire.packet(2, 0, 1, 4));
    }

    private void sessionNumbers() {
        Check.says("a new session, whose number is how many began at this server before, mod 65536");
        x.user(4, 44, 1);
        for (int n = 0; n < 65538; n++) {
            loseAll();
            bring(2, 0, identity(n));
            if (n % 8192 < 2 || n % 8192 > 8190) {
                Check.bytes("TOKEN of session " + n, Arrays.copyOfRange(latest(), 7, 11), 24, 4, n / 256 % 256, n % 256);
                Check.due("so many began", x.server(0, 2), n + 1);
            }
        }
        loseAll();
        for (int n : new int[] {65537, 65536, 65535, 65534}) {
            int random = Wire.hash(Wire.four(44), Wire.row(0), Wire.four(n));
            int hash = Wire.hash(Wire.row(1), Wire.four(44), Wire.four(random));
            int[] packet = Wire.packet(2, 1, Wire.cat(Wire.row(4), Wire.four(hash)));
            bring(2, 0, Wire.request(KEY, 9, -n, 0, n % 65536, packet));
            Check.due("session " + n + " is found", latest()[0], 2);
        }
        Check.due("all are gone", x.server(0, 1), 0);
    }
}
