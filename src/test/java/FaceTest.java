import java.lang.reflect.Constructor;
import java.lang.reflect.Field;
import java.lang.reflect.Method;
import java.lang.reflect.Modifier;
import java.util.TreeSet;

/** The public face, promise 1 (a new object), and the wrong inputs of the calls that only answer (13 to 20). */
public final class FaceTest {
    public static void main(String[] args) {
        face();
        newObject();
        noSuch();
        Check.end();
    }

    private static void face() {
        TreeSet<String> got = new TreeSet<>();
        for (Method m : PortGuard.class.getDeclaredMethods()) {
            if (!Modifier.isPrivate(m.getModifiers())) {
                got.add(m.toString().replace("PortGuard.", ""));
            }
        }
        String[] due = {
            "boolean user(int,int,int)", "boolean host(int,int,int,int)", "boolean start(int,boolean)",
            "boolean link(int,boolean)", "boolean power(int,boolean)", "boolean pass(int,int)",
            "boolean alter(int,int,int)", "boolean draft(long,int)", "boolean forge(int,int)", "int tick()",
            "int data(int,int,int)", "int waiting()", "int message(int,int)", "int port(int,int)",
            "int station(int,int)", "int server(int,int)", "int wrong(int)", "int learned(int)", "int favourite()"};
        TreeSet<String> want = new TreeSet<>();
        for (String m : due) {
            want.add("public " + m);
        }
        Check.yes("the methods are " + got, got.equals(want));
        for (Field f : PortGuard.class.getDeclaredFields()) {
            Check.yes(f + " is private", Modifier.isPrivate(f.getModifiers()));
        }
        for (Constructor<?> c : PortGuard.class.getDeclaredConstructors()) {
            Check.yes(c + " is the one", c.toString().equals("public PortGuard(int)"));
        }
        Check.due("the class is public and final", PortGuard.class.getModifiers(), Modifier.PUBLIC | Modifier.FINAL);
    }

    private static void newObject() {
        PortGuard x = new PortGuard(Integer.MIN_VALUE);
        int[] port = {0, 0, 0, 0, 0, -1, 0, -1, -1, 0, 0, 0};
        int[] station = {0, 0, -1, -1, 0};
        int[] server = {1, 0, 0, 0};
        for (int p = 0; p < 4; p++) {
            for (int what = 0; what < 12; what++) {
                Check.due("new port(" + p + ", " + what + ")", x.port(p, what), port[what]);
            }
            for (int what = 0; what < 5; what++) {
                Check.due("new station(" + p + ", " + what + ")", x.station(p, what), station[what]);
            }
            Check.no("new start", x.start(p, true));
            Check.no("new link off", x.link(p, false));
            Check.due("new data", x.data(p, 0, 8), 0);
        }
        for (int s = 0; s < 2; s++) {
            for (int what = 0; what < 4; what++) {
                Check.due("new server(" + s + ", " + what + ")", x.server(s, what), server[what]);
            }
            Check.no("new power on", x.power(s, true));
        }
        for (int a = -1; a < 10; a++) {
            Check.due("new learned", x.learned(a), -1);
        }
        for (int who = 0; who < 3; who++) {
            Check.due("new wrong", x.wrong(who), 0);
        }
        Check.due("new waiting", x.waiting(), 0);
        Check.due("new favourite", x.favourite(), 0);
        Check.due("new message", x.message(0, 0), -1);
        Check.no("new forge", x.forge(0, 0));
        Check.no("new pass", x.pass(0, 0));
        Check.due("new tick", x.tick(), 0);
        Check.due("no link, no clock", x.port(0, 4), 0);
    }

    private static void noSuch() {
        Bench b = new Bench(3);
        b.open(0, 1);
        b.x.start(0, true);
        int[] outside = {-1, 4, 12, Integer.MIN_VALUE, Integer.MAX_VALUE};
        for (int i : outside) {
            Check.due("port of none", b.x.port(i, 0), -2);
            Check.due("station of none", b.x.station(i, 0), -2);
            Check.due("server of none", b.x.server(i, 0), -2);
            Check.due("wrong of none", b.x.wrong(i), -1);
            Check.due("message of none", b.x.message(i, 0), -1);
            Check.due("learned of none", b.x.learned(i), -1);
        }
        for (int what : new int[] {-1, 12, Integer.MIN_VALUE, Integer.MAX_VALUE}) {
            Check.due("port what", b.x.port(0, what), -2);
            Check.due("station what", b.x.station(0, what), -2);
            Check.due("server what", b.x.server(0, what), -2);
            Check.due("message what", b.x.message(0, what), -1);
        }
        Check.due("station what 5", b.x.station(0, 5), -2);
        Check.due("server what 4", b.x.server(0, 4), -2);
        Check.due("server 2", b.x.server(2, 0), -2);
        Check.due("wrong 3", b.x.wrong(3), -1);
        Check.due("message byte 0", b.x.message(0, 3), 1);
        Check.due("message byte 1", b.x.message(0, 4), -1);
        Check.due("learned 8", b.x.learned(8), -1);
    }
}
