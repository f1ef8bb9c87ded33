import com.sun.management.ThreadMXBean;
import java.io.IOException;
import java.lang.management.ManagementFactory;
import java.lang.reflect.Field;
import java.lang.reflect.Method;
import java.lang.reflect.Modifier;
import java.nio.file.Files;
import java.nio.file.Path;
import java.util.ArrayList;
import java.util.Arrays;
import java.util.List;
import java.util.Set;
import java.util.TreeSet;
import java.util.regex.Matcher;
import java.util.regex.Pattern;

/** Those rules of ../shared/LANGUAGE.md that can be seen in the compiled class, in its text, or by what it makes. */
public final class LanguageTest {
    private static final Path SOURCE = Path.of("src/main/java/PortGuard.java");
    private static final Set<String> LIBRARY = Set.of("Math.min", "Arrays.fill", "System.arraycopy");
    private static final Set<Class<?>> CONSTANTS = Set.of(int.class, long.class, boolean.class, char.class, String.class);

    public static void main(String[] args) throws IOException {
        String text = Files.readString(SOURCE).replaceAll("(?s)/\\*.*?\\*/", "").replaceAll("//.*", "");
        namesOfTheFace();
        classesInside();
        staticFields();
        sizes(text);
        library(text);
        words(text);
        callsMakeNoObject();
        Check.end();
    }

    private static List<Class<?>> classes() {
        List<Class<?>> all = new ArrayList<>(List.of(PortGuard.class));
        all.addAll(Arrays.asList(PortGuard.class.getDeclaredClasses()));
        return all;
    }

    private static void namesOfTheFace() {
        Check.says("rule 1: No private method bears the name of a public one");
        Set<String> face = new TreeSet<>();
        for (Method m : PortGuard.class.getMethods()) {
            face.add(m.getName());
        }
        for (Class<?> c : classes()) {
            for (Method m : c.getDeclaredMethods()) {
                boolean open = c == PortGuard.class && Modifier.isPublic(m.getModifiers());
                Check.yes(m.toString(), open || !face.contains(m.getName()));
            }
        }
    }

    private static void classesInside() {
        Check.says("rules 1 and 11: the classes inside are private or package-visible and static, some twelve in all");
        Check.yes("classes: " + classes().size(), classes().size() <= 12);
        for (Class<?> c : PortGuard.class.getDeclaredClasses()) {
            int m = c.getModifiers();
            Check.yes(c.getName(), Modifier.isStatic(m) && !Modifier.isPublic(m) && !Modifier.isProtected(m));
            Check.due("classes in " + c.getName(), c.getDeclaredClasses().length, 0);
        }
    }

    private static void staticFields() {
        Check.says("rule 5: Static fields are final: constants of int, long, boolean, char or String");
        for (Class<?> c : classes()) {
            for (Field f : c.getDeclaredFields()) {
                if (Modifier.isStatic(f.getModifiers())) {
                    Check.yes(f.toString(), Modifier.isFinal(f.getModifiers()) && CONSTANTS.contains(f.getType()));
                }
            }
        }
    }

    private static void sizes(String text) {
        Check.says("rule 11: at most seven parameters, some sixty lines, some twenty fields beside its constants");
        for (Class<?> c : classes()) {
            long fields = Arrays.stream(c.getDeclaredFields()).filter(f -> !Modifier.isStatic(f.getModifiers())).count();
            Check.yes("fields of " + c.getName() + ": " + fields, fields <= 20);
            for (Method m : c.getDeclaredMethods()) {
                Check.yes(m.toString(), m.getParameterCount() <= 7);
            }
        }
        int began = 0;
        String[] lines = text.split("\n");
        for (int i = 0; i < lines.length; i++) {
            if (lines[i].matches("( {4}| {8})\\S.*\\) \\{")) {
                began = i;
            } else if (lines[i].matches("( {4}| {8})}")) {
                Check.yes("the method at line " + (began + 1), i - began < 60);
            }
        }
    }

    private static void library(String text) {
        Check.says("rule 4: The library: only what stands here");
        Matcher calls = Pattern.compile("\\b(Math|Arrays|System|Integer|Long|String|List)\\.\\w+").matcher(text);
        while (calls.find()) {
            Check.yes(calls.group(), LIBRARY.contains(calls.group()));
        }
        Matcher imports = Pattern.compile("(?m)^import (.*);").matcher(text);
        while (imports.find()) {
            Check.same("import", imports.group(1), "java.util.Arrays");
        }
    }

    private static void words(String text) {
        Check.says("rules 2, 6 and 13: no lambda, no method reference, nothing thrown, no thread, no clock");
        String[] none = {"->", "::", "\\bthrow\\b", "\\bfinally\\b", "\\bassert\\b", "\\bsynchronized\\b",
            "\\bhashCode\\b", "\\btoString\\b", "\\bThread\\b", "(?m)^\\s*static \\{", "(?m)^package\\b"};
        for (String word : none) {
            Check.no(word, Pattern.compile(word).matcher(text).find());
        }
    }

    private static void callsMakeNoObject() {
        Check.says("rule 12: What a run makes is counted: keep it small");
        ThreadMXBean counter = (ThreadMXBean) ManagementFactory.getThreadMXBean();
        run(new PortGuard(1));
        PortGuard x = new PortGuard(1);
        counter.getCurrentThreadAllocatedBytes();
        long before = counter.getCurrentThreadAllocatedBytes();
        run(x);
        long made = counter.getCurrentThreadAllocatedBytes() - before;
        Check.yes("bytes that some 350 calls made: " + made, made < 100);
    }

    /** Hosts are let in, by both methods, time goes by, and rows are forged. */
    private static void run(PortGuard x) {
        for (int p = 0; p < 4; p++) {
            x.user(p, 5, 1 + p % 3);
            x.host(p, p, 5, 3 - p % 3);
            x.link(p, true);
        }
        for (int n = 0; n < 100; n++) {
            x.pass(0, 0);
        }
        for (int n = 0; n < 40; n++) {
            x.tick();
            x.pass(n % 3, n % 2);
            x.data(n % 4, n % 8, n % 9);
            x.draft(n, 8);
            x.forge(n % 4, n % 2);
            x.alter(0, 0, n);
        }
    }
}
