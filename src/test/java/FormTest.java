import java.lang.reflect.Constructor;
import java.lang.reflect.Field;
import java.lang.reflect.Method;
import java.lang.reflect.Modifier;
import java.nio.file.Files;
import java.nio.file.Path;
import java.util.ArrayList;
import java.util.Arrays;
import java.util.List;
import java.util.Set;
import java.util.TreeSet;

/** The face of the document, args[1], and what of LANGUAGE.md's rules can be seen; args[0] is the source file. */
public final class FormTest {
    private static final String THROWABLE = "(IllegalState|IllegalArgument|IndexOutOfBounds|Arithmetic"
            + "|UnsupportedOperation|NoSuchElement|Runtime)Exception";
    private static final String METHOD = "( {4}| {8})(public|private|static|void|int|long|boolean|[A-Z]\\w*)\\b"
            + "[^=;]*[(][^;]*";

    public static void main(String[] args) throws Exception {
        String source = Files.readString(Path.of(args[0]));
        List<String> face = faceOf(Files.readString(Path.of(args[1])));
        face(face);
        declared(face, source.replaceAll("\\s+", " "));
        names();
        insides();
        source(source);
        lengths(source);
        room();
        Check.finish("FormTest");
    }

    /** The members that the document shows, one a line. */
    private static List<String> faceOf(String document) {
        int start = document.indexOf("```java");
        List<String> out = new ArrayList<>();
        for (String line : document.substring(start, document.indexOf("```", start + 3)).split("\n")) {
            if (line.startsWith("    public ")) {
                out.add(line.strip().replace(";", ""));
            }
        }
        Check.due("members that the document shows", out.size(), 25);
        return out;
    }

    /** No member is shown but those of the document, and these with their types. */
    private static void face(List<String> face) {
        Set<String> want = new TreeSet<>();
        for (String member : face) {
            String bare = member.replaceFirst(" throws .*", "").replaceFirst(" = .*", "");
            want.add(bare.replaceAll("(int|boolean) \\w+([,)])", "$1$2").replace(", ", ","));
        }
        Set<String> seen = new TreeSet<>();
        for (Method m : BearHouse.class.getDeclaredMethods()) {
            if (!Modifier.isPrivate(m.getModifiers())) {
                seen.add(m.toGenericString().replace("BearHouse.", "").replaceFirst(" throws .*", ""));
            }
        }
        for (Field f : BearHouse.class.getDeclaredFields()) {
            if (!Modifier.isPrivate(f.getModifiers())) {
                seen.add(f.toString().replace("BearHouse.", ""));
            }
        }
        for (Constructor<?> c : BearHouse.class.getDeclaredConstructors()) {
            seen.add(c.toString());
        }
        Check.due("the members that are shown", seen.toString(), want.toString());
        int modifiers = BearHouse.class.getModifiers();
        Check.due("the class is public", Modifier.isPublic(modifiers) ? 1 : 0, 1);
        Check.due("the class is final", Modifier.isFinal(modifiers) ? 1 : 0, 1);
    }

    /** Word by word, so that the names of parameters, the exceptions and the constant's value are looked at too. */
    private static void declared(List<String> face, String source) {
        for (String member : face) {
            boolean there = source.contains(member + (member.contains("=") ? ";" : " {"));
            Check.due("the source has: " + member, there ? 1 : 0, 1);
        }
    }

    private static void names() {
        Set<String> shownNames = new TreeSet<>();
        for (Method m : BearHouse.class.getMethods()) {
            shownNames.add(m.getDeclaringClass() == BearHouse.class ? m.getName() : "");
        }
        List<Class<?>> classes = new ArrayList<>(Arrays.asList(BearHouse.class.getDeclaredClasses()));
        classes.add(BearHouse.class);
        for (Class<?> c : classes) {
            for (Method m : c.getDeclaredMethods()) {
                boolean shown = c == BearHouse.class && Modifier.isPublic(m.getModifiers());
                Check.due(c.getSimpleName() + "." + m.getName() + " has a name of its own",
                        !shown && shownNames.contains(m.getName()) ? 1 : 0, 0);
                Check.due(m.getName() + " has a few parameters", m.getParameterCount() <= 7 ? 1 : 0, 1);
            }
        }
    }

    private static void insides() {
        Class<?>[] classes = BearHouse.class.getDeclaredClasses();
        Check.due("some twelve classes", classes.length < 12 ? 1 : 0, 1);
        for (Class<?> c : classes) {
            Check.due(c.getSimpleName() + " is static", Modifier.isStatic(c.getModifiers()) ? 1 : 0, 1);
            int fields = 0;
            for (Field f : c.getDeclaredFields()) {
                fields += Modifier.isStatic(f.getModifiers()) ? 0 : 1;
                Check.due(f.getName() + " is a constant if static",
                        Modifier.isStatic(f.getModifiers()) && !isConstant(f) ? 1 : 0, 0);
            }
            Check.due(c.getSimpleName() + " has a few fields", fields <= 20 ? 1 : 0, 1);
        }
    }

    private static boolean isConstant(Field f) {
        return Modifier.isFinal(f.getModifiers())
                && f.getType().getSimpleName().matches("int|long|boolean|char|String|int\\[\\]|long\\[\\]");
    }

    private static void source(String text) {
        String code = text.replaceAll("(?s)/\\*.*?\\*/", "").replaceAll("//[^\n]*", "")
                .replaceAll("\"[^\"\n]*\"", "\"\"");
        Check.due("each throw is of a new one that rule 6 lists",
                code.replaceAll("throw new " + THROWABLE + "\\((\"\")?\\);", "")
                        .matches("(?s).*\\bthrow\\b.*") ? 1 : 0, 0);
        for (String word : new String[] {"try", "catch", "finally", "synchronized", "assert", "instanceof",
            "double", "float", "Exact", "getMessage", "package", "Random", "System.currentTimeMillis",
            "System.nanoTime", "System.out", "System.exit", "Thread", "hashCode", "toString"}) {
            Check.due("the source has " + word,
                    code.matches("(?s).*\\b" + word.replace(".", "\\.") + "\\b.*") ? 1 : 0, 0);
        }
        Check.due("the source has a lambda", code.contains("->") || code.contains("::") ? 1 : 0, 0);
        for (String line : code.split("\n")) {
            if (line.startsWith("import ")) {
                Check.due(line, line.equals("import java.util.Arrays;")
                        || line.equals("import java.util.NoSuchElementException;") ? 1 : 0, 1);
            }
        }
    }

    /** From a method's first line to the one that closes it; rule 11 speaks of some sixty. */
    private static void lengths(String text) {
        String[] lines = text.split("\n");
        int methods = 0;
        for (int k = 0; k < lines.length; k++) {
            if (lines[k].matches(METHOD)) {
                String end = lines[k].substring(0, lines[k].length() - lines[k].stripLeading().length()) + "}";
                int length = 1;
                while (k + length < lines.length && !lines[k + length].equals(end)) {
                    length++;
                }
                Check.due("the method is short: " + lines[k].strip(), length < 60 ? 1 : 0, 1);
                methods++;
            }
        }
        Check.due("methods were found", methods > 100 ? 1 : 0, 1);
    }

    /** What a run makes, in bytes: an element takes at most eight, an object or array some sixteen more. */
    private static void room() {
        com.sun.management.ThreadMXBean counter =
                (com.sun.management.ThreadMXBean) java.lang.management.ManagementFactory.getThreadMXBean();
        long id = Thread.currentThread().getId();
        dearRun(1);
        long before = counter.getThreadAllocatedBytes(id);
        dearRun(512);
        long made = counter.getThreadAllocatedBytes(id) - before;
        Check.due("a dear run has room (" + made + " bytes)", made < 16_000_000 ? 1 : 0, 1);
        before = counter.getThreadAllocatedBytes(id);
        for (int k = 0; k < 100; k++) {
            new BearHouse().learn();
        }
        made = (counter.getThreadAllocatedBytes(id) - before) / 100;
        Check.due("a new object is small (" + made + " bytes)", made < 30_000 ? 1 : 0, 1);
    }

    /** All STANDS worked out, and POSITIONS with many RESULTS. */
    private static void dearRun(int calls) {
        BearHouse x = new BearHouse();
        Check.position(x, "24:1,23:1,22:1,21:1,20:1,19:1,18:1,17:1,16:1,15:1,14:1,13:1,12:1,11:1,10:1;24:1;0");
        for (int k = 0; k < calls - 10; k++) {
            if (k < 90) {
                x.learn();
            } else if (k < 300) {
                x.rolls(0xf00000 >> 4 * (k % 6));
            } else {
                x.plays(1 + k % 6, 1 + k % 6);
            }
        }
    }
}
