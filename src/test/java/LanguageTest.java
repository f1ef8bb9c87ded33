import com.sun.management.ThreadMXBean;
import java.io.IOException;
import java.lang.management.ManagementFactory;
import java.lang.reflect.Field;
import java.lang.reflect.Method;
import java.lang.reflect.Modifier;
import java.nio.file.Files;
import java.nio.file.Path;
import java.util.ArrayList;
import java.util.Arrays;
import java.util.List;
import java.util.Set;
import java.util.TreeSet;
import java.util.regex.Matcher;
import java.util.regex.Pattern;

/** Those rules of ../shared/LANGUAGE.md that can be seen in the compiled class, in its text, or by what it makes. */
public final class LanguageTest {
    private static final Path SOURCE = Path.of("src/main/java/PortGuard.java");
    private static final String LIBRARY = "(Math|Integer|Long)\\.(?!\\w*Exact\\b)\\w+"
        + "|System\\.arraycopy|Arrays\\.(copyOf|copyOfRange|fill)|List\\.of";
    private static final Set<String> IMPORTS =
        Set.of("java.util.Arrays", "java.util.ArrayList", "java.util.List", "java.util.Iterator");
    private static final Set<Class<?>> CONSTANTS = Set.of(int.class, long.class, boolean.class, char.class, String.class,
        int[].class, long[].class, char[].class, byte[].class);
    private static final long MANY_BYTES = 1 << 20;

    public static void main(String[] args) throws IOException {
        String text = Files.readString(SOURCE).replaceAll("(?s)/\\*.*?\\*/", "").replaceAll("//.*", "");
        namesOfTheFace();
        classesInside();
        staticFields();
        sizes();
        library(text);
        words(text);
        whatCallsMake();
        Check.end();
    }

    private static List<Class<?>> classes() {
        List<Class<?>> all = new ArrayList<>(List.of(PortGuard.class));
        all.addAll(Arrays.asList(PortGuard.class.getDeclaredClasses()));
        return all;
    }

    private static void namesOfTheFace() {
        Check.says("rule 1: No private method bears the name of a public one");
        Set<String> face = new TreeSet<>();
        for (Method m : PortGuard.class.getMethods()) {
            face.add(m.getName());
        }
        for (Class<?> c : classes()) {
            for (Method m : c.getDeclaredMethods()) {
                Check.yes(m.toString(), !Modifier.isPrivate(m.getModifiers()) || !face.contains(m.getName()));
            }
        }
    }

    private static void classesInside() {
        Check.says("rules 1 and 11: classes inside are private or package-visible and static; some twelve classes");
        Check.yes("classes: " + classes().size(), classes().size() <= 12);
        for (Class<?> c : PortGuard.class.getDeclaredClasses()) {
            int m = c.getModifiers();
            Check.yes(c.getName(), Modifier.isStatic(m) && !Modifier.isPublic(m) && !Modifier.isProtected(m));
        }
    }

    private static void staticFields() {
        Check.says("rule 5: Static fields are final: constants");
        for (Class<?> c : classes()) {
            for (Field f : c.getDeclaredFields()) {
                boolean constant = CONSTANTS.contains(f.getType()) || c.isEnum();
                Check.yes(f.toString(), !Modifier.isStatic(f.getModifiers()) || Modifier.isFinal(f.getModifiers()) && constant);
            }
        }
    }

    private static void sizes() {
        Check.says("rule 11: A method takes at most seven parameters ... a class some twenty fields beside its constants");
        for (Class<?> c : classes()) {
            long fields = Arrays.stream(c.getDeclaredFields()).filter(f -> !Modifier.isStatic(f.getModifiers())).count();
            Check.yes("fields of " + c.getName() + ": " + fields, fields <= 20);
            for (Method m : c.getDeclaredMethods()) {
                Check.yes(m.toString(), m.getParameterCount() <= 7);
            }
        }
    }

    private static void library(String text) {
        Check.says("rule 4: The library: only what stands here");
        Matcher calls = Pattern.compile("\\b(Math|Arrays|System|Integer|Long|List)\\.\\w+").matcher(text);
        while (calls.find()) {
            Check.yes(calls.group(), calls.group().matches(LIBRARY));
        }
        Matcher imports = Pattern.compile("(?m)^import (.*);").matcher(text);
        while (imports.find()) {
            Check.yes("import " + imports.group(1), IMPORTS.contains(imports.group(1)));
        }
    }

    private static void words(String text) {
        Check.says("rules 2, 5, 6 and 13: no method reference, finally, assert, synchronized, thread, static initialiser");
        String[] none = {"::", "\\bfinally\\b", "\\bassert\\b", "\\bsynchronized\\b", "\\bThread\\b", "\\bhashCode\\b",
            "(?m)^\\s*static \\{", "(?m)^package\\b"};
        for (String word : none) {
            Check.no(word, Pattern.compile(word).matcher(text).find());
        }
        for (Class<?> c : classes()) {
            for (Method m : c.getDeclaredMethods()) {
                Check.no("a lambda: " + m, m.getName().startsWith("lambda$"));
            }
        }
    }

    private static void whatCallsMake() {
        Check.says("rule 12: What a run makes is counted: keep it small");
        ThreadMXBean counter = (ThreadMXBean) ManagementFactory.getThreadMXBean();
        run(new PortGuard(1));
        PortGuard x = new PortGuard(1);
        counter.getCurrentThreadAllocatedBytes();
        long before = counter.getCurrentThreadAllocatedBytes();
        run(x);
        long made = counter.getCurrentThreadAllocatedBytes() - before;
        Check.yes("bytes that some 350 calls made: " + made, made < MANY_BYTES);
    }

    /** Hosts are let in, by both methods, time goes by, and rows are forged. */
    private static void run(PortGuard x) {
        for (int p = 0; p < 4; p++) {
            x.user(p, 5, 1 + p % 3);
            x.host(p, p, 5, 3 - p % 3);
            x.link(p, true);
        }
        for (int n = 0; n < 100; n++) {
            x.pass(0, 0);
        }
        for (int n = 0; n < 40; n++) {
            x.tick();
            x.pass(n % 3, n % 2);
            x.data(n % 4, n % 8, n % 9);
            x.draft(n, 8);
            x.forge(n % 4, n % 2);
            x.alter(0, 0, n);
        }
    }
}
