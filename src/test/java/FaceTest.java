import java.lang.reflect.Constructor;
import java.lang.reflect.Field;
import java.lang.reflect.Method;
import java.lang.reflect.Modifier;
import java.util.TreeSet;

/** The public face, promise 1 (a new object), and the calls that only answer: promises 15 to 18 and 20. */
public final class FaceTest {
    public static void main(String[] args) {
        face();
        newObject();
        noSuch();
        told();
        wrongs();
        Check.end();
    }

    private static void face() {
        Check.says("The public face");
        TreeSet<String> got = new TreeSet<>();
        for (Method m : PortGuard.class.getDeclaredMethods()) {
            if (!Modifier.isPrivate(m.getModifiers())) {
                got.add(m.toString().replace("PortGuard.", ""));
            }
        }
        String[] due = {
            "boolean user(int,int,int)", "boolean host(int,int,int,int)", "boolean start(int,boolean)",
            "boolean link(int,boolean)", "boolean power(int,boolean)", "boolean pass(int,int)",
            "boolean alter(int,int,int)", "boolean draft(long,int)", "boolean forge(int,int)", "int tick()",
            "int data(int,int,int)", "int waiting()", "int message(int,int)", "int port(int,int)",
            "int station(int,int)", "int server(int,int)", "int wrong(int)", "int learned(int)", "int favourite()"};
        TreeSet<String> want = new TreeSet<>();
        for (String m : due) {
            want.add("public " + m);
        }
        Check.yes("the methods are " + got, got.equals(want));
        for (Field f : PortGuard.class.getDeclaredFields()) {
            Check.yes(f + " is private", Modifier.isPrivate(f.getModifiers()));
        }
        for (Constructor<?> c : PortGuard.class.getDeclaredConstructors()) {
            Check.yes(c + " is the one", c.toString().equals("public PortGuard(int)"));
        }
        Check.due("the class is public and final", PortGuard.class.getModifiers(), Modifier.PUBLIC | Modifier.FINAL);
    }

    private static void newObject() {
        Check.says("No users, hosts without user, no links, nothing waiting");
        for (int shared : new int[] {0, 1, -1, Integer.MIN_VALUE, Integer.MAX_VALUE}) {
            newObject(new Guard(shared));
        }
    }

    private static void newObject(Guard x) {
        int[] port = {0, 0, 0, 0, 0, -1, 0, -1, -1, 0, 0, 0};
        int[] station = {0, 0, -1, -1, 0};
        int[] server = {1, 0, 0, 0};
        for (int p = 0; p < 4; p++) {
            for (int what = 0; what < 12; what++) {
                Check.due("new port(" + p + ", " + what + ")", x.port(p, what), port[what]);
            }
            for (int what = 0; what < 5; what++) {
                Check.due("new station(" + p + ", " + what + ")", x.station(p, what), station[what]);
            }
            Check.no("new start", x.start(p, true));
            Check.no("new link off", x.link(p, false));
            Check.due("new data", x.data(p, 0, 8), 0);
        }
        for (int s = 0; s < 2; s++) {
            for (int what = 0; what < 4; what++) {
                Check.due("new server(" + s + ", " + what + ")", x.server(s, what), server[what]);
            }
            Check.no("new power on", x.power(s, true));
        }
        for (int a = -1; a < 10; a++) {
            Check.due("new learned", x.learned(a), -1);
        }
        for (int who = 0; who < 3; who++) {
            Check.due("new wrong", x.wrong(who), 0);
        }
        Check.due("new waiting", x.waiting(), 0);
        Check.due("new favourite", x.favourite(), 0);
        Check.due("new message", x.message(0, 0), -1);
        Check.no("no draft", x.forge(0, 0));
        Check.no("new pass", x.pass(0, 0));
        Check.due("new tick", x.tick(), 0);
        Check.due("no link, no clock", x.port(0, 4), 0);
    }

    /** What a call answers in a busy state, for what is told and for what is not. */
    private static void told(String call, int from, int to, int none, java.util.function.IntUnaryOperator of) {
        for (int i = from; i <= to; i++) {
            Check.yes(call + " " + i + " is told", of.applyAsInt(i) > none);
        }
        Check.due(call + " " + (from - 1), of.applyAsInt(from - 1), none);
        Check.due(call + " " + (to + 1), of.applyAsInt(to + 1), none);
        for (int far : Bench.FAR) {
            Check.due(call + " " + far, of.applyAsInt(far), none);
        }
    }

    private static void noSuch() {
        Bench b = Bench.busy();
        b.x.data(0, 0, 8);
        Check.says("port: -2 if there is no port p or no such what");
        told("what", 0, 11, -2, what -> b.x.port(0, what));
        told("p", 0, 3, -2, p -> b.x.port(p, 0));
        Check.says("station: -2 if there is no host h or no such what");
        told("what", 0, 4, -2, what -> b.x.station(0, what));
        told("h", 0, 3, -2, h -> b.x.station(h, 0));
        Check.says("server: -2 if there is no server s or no such what");
        told("what", 0, 3, -2, what -> b.x.server(0, what));
        told("s", 0, 1, -2, s -> b.x.server(s, 0));
        Check.says("wrong: -1 for another who");
        told("who", 0, 2, -1, who -> b.x.wrong(who));
    }

    private static void told() {
        Bench b = Bench.busy();
        Check.says("Of port p: what 0 STATE, 1 authorised ... 11 the NEXT id");
        Check.bytes("an OPEN port", b.view().port(0), 3, 1, 0, 0, 2, -1, 0, 1, 0, 1, 1, 2);
        Check.bytes("a WORKING port with a query", b.view().port(1), 2, 0, 0, 0, 2, 0, 1, 5, 2, 0, 0, 2);
        Check.bytes("a HELD port", b.view().port(2), 4, 0, 0, 0, 2, -1, 0, 1, 1, 0, 0, 2);
        Check.bytes("a port that asks", b.view().port(3), 1, 0, 1, 0, 2, -1, 0, -1, -1, 0, 0, 1);
        Check.says("Of host h: what 0 RESULT, 1 proof, 2 the id of LATEST, 3 its user, 4 how many randoms it made");
        Check.bytes("one that began anew", b.view().station(0), 0, 0, -1, 1, 0);
        Check.bytes("one amid a proof", b.view().station(1), 0, 0, 1, 5, 1);
        Check.bytes("one that failed", b.view().station(2), 2, 0, 1, 1, 0);
        Check.says("Of server s: what 0 whether it is up, 1 how many sessions it has, 2 how many began, 3 how many randoms");
        Check.bytes("server 0", b.view().server(0), 1, 1, 3, 3);
        Check.bytes("server 1", b.view().server(1), 1, 0, 0, 0);
    }

    private static void wrongs() {
        Check.says("who 0 to the switch, 1 to hosts with a user, 2 to servers that were up");
        Bench b = new Bench(5);
        for (int p = 0; p < 4; p++) {
            b.x.link(p, true);
            b.bring(1, p, 9);
            Check.due("to a host without user", b.x.wrong(1), p);
            b.x.host(p, p, 0, 0);
            b.bring(1, p, 9);
            Check.due("to a host with a user", b.x.wrong(1), p + 1);
            b.bring(0, p, 9);
            Check.due("a frame to the switch", b.x.wrong(0), p + 1);
        }
        for (int s = 0; s < 2; s++) {
            b.bring(3, s, 9);
            Check.due("a datagram to the switch", b.x.wrong(0), 5 + s);
            b.bring(2, s, 9);
            Check.due("to a server that is up", b.x.wrong(2), s + 1);
            b.x.power(s, false);
            b.bring(2, s, 9);
            Check.due("to one that is down", b.x.wrong(2), s + 1);
        }
        for (int h = 0; h < 4; h++) {
            b.x.host(h, -1, 0, 0);
        }
        b.x.power(0, true);
        Check.due("what was counted stays", b.x.wrong(0) * 100 + b.x.wrong(1) * 10 + b.x.wrong(2), 642);
    }
}
