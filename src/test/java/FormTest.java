import java.lang.reflect.Constructor;
import java.lang.reflect.Field;
import java.lang.reflect.Method;
import java.lang.reflect.Modifier;
import java.nio.file.Files;
import java.nio.file.Path;
import java.util.ArrayList;
import java.util.Arrays;
import java.util.List;
import java.util.Set;
import java.util.TreeSet;

/** The face of the document, and what can be seen of LANGUAGE.md's rules; args[0] is the source file. */
public final class FormTest {
    private static final Set<String> FACE = new TreeSet<>(Arrays.asList(
            "int feed(int,int,int,int,int)", "int position(int)", "int fault()", "int men(int,int)",
            "int ask(int)", "int plays(int,int)", "int result(int,int,int)", "int way(int,int)",
            "int choose(int)", "int say(int,int,int)", "boolean back()", "void begin(int)",
            "int roll(int,int)", "int offer()", "int answer(boolean)", "void next()", "int match(int)",
            "int learn()", "int rolls(int)", "int best(int,int,int)", "int within(int,int)",
            "int race(int,int)", "int octet(int)"));

    public static void main(String[] args) throws Exception {
        face();
        insides();
        source(Files.readString(Path.of(args[0])));
        room();
        Check.finish("FormTest");
    }

    private static void face() {
        Set<String> seen = new TreeSet<>();
        Set<String> names = new TreeSet<>();
        for (Method m : BearHouse.class.getDeclaredMethods()) {
            if (Modifier.isPublic(m.getModifiers())) {
                List<String> types = new ArrayList<>();
                for (Class<?> type : m.getParameterTypes()) {
                    types.add(type.getSimpleName());
                }
                seen.add(m.getReturnType() + " " + m.getName() + "(" + String.join(",", types) + ")");
                names.add(m.getName());
            }
        }
        Check.due("the public methods", seen.toString(), FACE.toString());
        Check.due("the class is final", Modifier.isFinal(BearHouse.class.getModifiers()) ? 1 : 0, 1);
        for (Field f : BearHouse.class.getDeclaredFields()) {
            boolean shown = f.getName().equals("NONE");
            Check.due("the field " + f.getName() + " is private",
                    Modifier.isPrivate(f.getModifiers()) ? 1 : 0, shown ? 0 : 1);
        }
        Constructor<?>[] made = BearHouse.class.getDeclaredConstructors();
        Check.due("constructors", made.length, 1);
        List<Class<?>> classes = new ArrayList<>(Arrays.asList(BearHouse.class.getDeclaredClasses()));
        classes.add(BearHouse.class);
        for (Class<?> c : classes) {
            for (Method m : c.getDeclaredMethods()) {
                boolean shown = c == BearHouse.class && Modifier.isPublic(m.getModifiers());
                Check.due(c.getSimpleName() + "." + m.getName() + " has a name of its own",
                        !shown && names.contains(m.getName()) ? 1 : 0, 0);
                Check.due(m.getName() + " has a few parameters", m.getParameterCount() <= 7 ? 1 : 0, 1);
                Check.due(m.getName() + " is no shown one",
                        c == BearHouse.class && !shown && !Modifier.isPrivate(m.getModifiers()) ? 1 : 0, 0);
            }
        }
    }

    private static void insides() {
        Class<?>[] classes = BearHouse.class.getDeclaredClasses();
        Check.due("some twelve classes", classes.length < 12 ? 1 : 0, 1);
        for (Class<?> c : classes) {
            Check.due(c.getSimpleName() + " is static", Modifier.isStatic(c.getModifiers()) ? 1 : 0, 1);
            int fields = 0;
            for (Field f : c.getDeclaredFields()) {
                fields += Modifier.isStatic(f.getModifiers()) ? 0 : 1;
                Check.due(f.getName() + " is final if static",
                        Modifier.isStatic(f.getModifiers()) && !Modifier.isFinal(f.getModifiers()) ? 1 : 0, 0);
            }
            Check.due(c.getSimpleName() + " has a few fields", fields <= 20 ? 1 : 0, 1);
        }
    }

    private static void source(String text) {
        String code = text.replaceAll("(?s)/\\*.*?\\*/", "").replaceAll("//[^\n]*", "")
                .replaceAll("\"[^\"\n]*\"", "\"\"");
        for (String word : new String[] {"try", "catch", "finally", "synchronized", "assert", "instanceof",
            "double", "float", "Exact", "getMessage", "package", "Random", "System.currentTimeMillis",
            "System.nanoTime", "System.out", "System.exit", "Thread", "hashCode", "toString"}) {
            Check.due("the source has " + word,
                    code.matches("(?s).*\\b" + word.replace(".", "\\.") + "\\b.*") ? 1 : 0, 0);
        }
        Check.due("the source has a lambda", code.contains("->") || code.contains("::") ? 1 : 0, 0);
        for (String line : code.split("\n")) {
            if (line.startsWith("import ")) {
                Check.due(line, line.equals("import java.util.Arrays;")
                        || line.equals("import java.util.NoSuchElementException;") ? 1 : 0, 1);
            }
        }
    }

    /** What a run makes, in bytes: an element takes at most eight, an object or array some sixteen more. */
    private static void room() {
        com.sun.management.ThreadMXBean counter =
                (com.sun.management.ThreadMXBean) java.lang.management.ManagementFactory.getThreadMXBean();
        long id = Thread.currentThread().getId();
        dearRun(1);
        long before = counter.getThreadAllocatedBytes(id);
        dearRun(512);
        long made = counter.getThreadAllocatedBytes(id) - before;
        Check.due("a dear run has room (" + made + " bytes)", made < 16_000_000 ? 1 : 0, 1);
        before = counter.getThreadAllocatedBytes(id);
        for (int k = 0; k < 100; k++) {
            new BearHouse().learn();
        }
        made = (counter.getThreadAllocatedBytes(id) - before) / 100;
        Check.due("a new object is small (" + made + " bytes)", made < 30_000 ? 1 : 0, 1);
    }

    /** All STANDS worked out, and POSITIONS with many RESULTS. */
    private static void dearRun(int calls) {
        BearHouse x = new BearHouse();
        Check.position(x, "24:1,23:1,22:1,21:1,20:1,19:1,18:1,17:1,16:1,15:1,14:1,13:1,12:1,11:1,10:1;24:1;0");
        for (int k = 0; k < calls - 10; k++) {
            if (k < 90) {
                x.learn();
            } else if (k < 300) {
                x.rolls(0xf00000 >> 4 * (k % 6));
            } else {
                x.plays(1 + k % 6, 1 + k % 6);
            }
        }
    }
}
