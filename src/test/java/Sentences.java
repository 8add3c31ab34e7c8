import java.util.ArrayList;
import java.util.Arrays;
import java.util.LinkedHashMap;
import java.util.List;
import java.util.Map;
import java.util.TreeSet;

/**
 * Sentences of the document, each with a test of its own. A sentence is quoted as it stands there, under the
 * promise or the part of "Terms" that it stands in; no word of these may be left without a test.
 */
final class Sentences {
    private static final Map<String, List<String>> QUOTED = new LinkedHashMap<>();

    private Sentences() {
    }

    static void holds(String where, String sentence, Runnable test) {
        QUOTED.computeIfAbsent(where, key -> new ArrayList<>()).add(sentence);
        int asked = Check.asked();
        int wrong = Check.wrong();
        try {
            test.run();
        } catch (RuntimeException | Error e) {
            Check.due("a call of this test", "threw " + e, "does not throw");
        }
        Check.due("the test asks something", Check.asked() > asked ? 1 : 0, 1);
        if (Check.wrong() > wrong) {
            System.out.println("DOES NOT HOLD: " + where + ": " + sentence);
        }
    }

    static int count() {
        return QUOTED.values().stream().mapToInt(List::size).sum();
    }

    /** Every quote is in its place, and every word of Terms and promises in a quote. */
    static void compareWith(String document) {
        Map<String, String> sections = sections(document);
        Check.due("places that are named", new TreeSet<>(QUOTED.keySet()).toString(),
                new TreeSet<>(sections.keySet()).toString());
        for (Map.Entry<String, String> section : sections.entrySet()) {
            String text = section.getValue();
            boolean[] quoted = new boolean[text.length()];
            for (String quote : QUOTED.getOrDefault(section.getKey(), List.of())) {
                int at = text.indexOf(plain(quote));
                Check.due(section.getKey() + " says: " + quote, at < 0 ? 0 : 1, 1);
                Arrays.fill(quoted, Math.max(at, 0), at < 0 ? 0 : at + plain(quote).length(), true);
            }
            Check.due("words without a test in " + section.getKey(), unquoted(text, quoted), "");
        }
    }

    private static String unquoted(String text, boolean[] quoted) {
        StringBuilder left = new StringBuilder();
        for (int k = 0; k < text.length(); k++) {
            if (!quoted[k] && Character.isLetterOrDigit(text.charAt(k))) {
                left.append(text.charAt(k));
            }
        }
        return left.toString();
    }

    private static String plain(String text) {
        return text.replace("```text", " ").replace("```", " ").replaceAll("\\s+", " ").trim();
    }

    private static String between(String document, String from, String to) {
        int start = document.indexOf(from) + from.length();
        return plain(document.substring(start, document.indexOf(to, start)));
    }

    private static Map<String, String> sections(String document) {
        Map<String, String> out = new LinkedHashMap<>();
        out.put("What it is", between(document, "who wins a race. ==== 1.", "## The public face"));
        out.put("Terms 1", between(document, "## Terms", "==== 2."));
        out.put("Terms 2", between(document, "==== 2.", "==== 3."));
        out.put("Terms 3", between(document, "==== 3.", "==== 4."));
        out.put("Terms 4", between(document, "==== 4.", "The constants:"));
        out.put("The constants", between(document, "The constants:", "## Promise 1:"));
        for (int k = 1; k <= 24; k++) {
            String next = k < 24 ? "## Promise " + (k + 1) + ":" : "## Not promised";
            String whole = between(document, "## Promise " + k + ":", next);
            out.put("Promise " + k, whole.substring(whole.indexOf("`: ") + 3));
        }
        return out;
    }
}
