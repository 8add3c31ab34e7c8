import java.io.IOException;
import java.nio.file.Files;
import java.nio.file.Path;
import java.util.ArrayList;
import java.util.Arrays;
import java.util.List;
import java.util.Set;
import java.util.TreeSet;
import java.util.regex.Matcher;
import java.util.regex.Pattern;
import java.util.stream.Collectors;
import java.util.stream.Stream;

/** What README.md, args[2], says agrees with the project: its example, the files and the tests that it names. */
public final class ReadmeTest {
    private static final String[] EXAMPLE = {
        "BearHouse x = new BearHouse();",
        "int n = x.plays(3, 1);",
        "int first = x.way(4, 0);",
        "x.choose(4);",
        "x.feed(0x382f3520, 0x362f3520, 0x20202020, 0x20202020, 0x20202020);",
        "int number = x.say(7, 3, 1);",
        "x.learn();",
        "x.learn();",
        "x.learn();",
        "int bytes = x.rolls(3);",
        "int letter = x.octet(0);"};

    public static void main(String[] args) throws IOException {
        Path readme = Path.of(args[2]).toAbsolutePath();
        String text = Files.readString(readme);
        exampleIsHere(text);
        exampleHolds();
        tableHasEveryTest(text, readme.getParent());
        namesAreThere(text, readme.getParent());
        Check.finish("ReadmeTest");
    }

    /** The lines that are run here are those of README.md, without their comments. */
    private static void exampleIsHere(String text) {
        int start = text.indexOf("```java") + "```java".length();
        List<String> lines = new ArrayList<>();
        for (String line : text.substring(start, text.indexOf("```", start)).split("\n")) {
            String code = line.replaceFirst("//.*", "").strip();
            if (!code.isEmpty()) {
                lines.add(code);
            }
        }
        Check.due("the example", lines.toString(), Arrays.toString(EXAMPLE));
        for (String said : new String[] {"16 results, numbered from 0", "32 * from + to of the first move: 8/5",
            "it is the other player's turn now", "\"8/5 6/5\" and blanks", "the result's number: 4",
            "prints \"11/6\" on the page", "its first byte: 49"}) {
            Check.due("the example says: " + said, text.contains(said) ? 1 : 0, 1);
        }
    }

    private static void exampleHolds() {
        BearHouse x = new BearHouse();
        int n = x.plays(3, 1);
        Check.due("n", n, 16);
        int first = x.way(4, 0);
        Check.due("first", first, 32 * 8 + 5);
        x.choose(4);
        Check.due("the turn", x.ask(0), 1);
        x.feed(0x382f3520, 0x362f3520, 0x20202020, 0x20202020, 0x20202020);
        int number = x.say(7, 3, 1);
        Check.due("number", number, 4);
        x.learn();
        x.learn();
        x.learn();
        int bytes = x.rolls(3);
        Check.due("bytes", bytes, 4);
        Check.due("the page", Check.page(x), "11/6");
        int letter = x.octet(0);
        Check.due("letter", letter, 49);
    }

    private static void tableHasEveryTest(String text, Path root) throws IOException {
        Set<String> rows = new TreeSet<>();
        Matcher row = Pattern.compile("(?m)^\\| `(\\w+)` \\|").matcher(text);
        while (row.find()) {
            rows.add(row.group(1));
        }
        try (Stream<Path> files = Files.list(root.resolve("src/test/java"))) {
            Set<String> tests = files.map(file -> file.getFileName().toString())
                    .filter(name -> name.endsWith("Test.java")).map(name -> name.replace(".java", ""))
                    .collect(Collectors.toCollection(TreeSet::new));
            Check.due("the tests in the table", rows.toString(), tests.toString());
        }
    }

    /** Files by their paths, and classes by their names. */
    private static void namesAreThere(String text, Path root) {
        Matcher quoted = Pattern.compile("`([\\w./]+)`").matcher(text.replaceAll("(?s)```.*?```", ""));
        while (quoted.find()) {
            String name = quoted.group(1);
            if (name.contains("/")) {
                Check.due(name + " is there", Files.exists(root.resolve(name)) ? 1 : 0, 1);
            } else if (name.matches("[A-Z]\\w*[a-z]\\w*")) {
                boolean there = Files.exists(root.resolve("src/test/java/" + name + ".java"));
                Check.due(name + " is a class of the tests", there ? 1 : 0, 1);
            }
        }
    }
}
