import java.nio.charset.StandardCharsets;
import java.nio.file.Files;
import java.nio.file.Path;
import java.util.LinkedHashMap;
import java.util.Map;

/** The document's own words: each test of an edge says which of them it is of, and none of them is left without. */
final class Sentences {
    private static final Path DOCUMENT = Path.of("..", "shared", "DOC.md");
    private static final Map<String, String> TEXTS = new LinkedHashMap<>();
    private static final Map<String, boolean[]> QUOTED = new LinkedHashMap<>();
    private static String latest = "";
    private static int askedAtLatest = 0;

    private Sentences() {
    }

    static void read() throws java.io.IOException {
        String whole = Files.readString(DOCUMENT, StandardCharsets.UTF_8);
        for (String section : whole.split("(?m)^## ")) {
            int end = section.indexOf('\n');
            String heading = section.substring(0, end).replaceAll(":.*", "").trim();
            if (heading.equals("What it is") || heading.equals("Terms") || heading.startsWith("Promise ")) {
                String text = plain(section.substring(end));
                TEXTS.put(heading, text);
                QUOTED.put(heading, new boolean[text.length()]);
            }
        }
        Check.due("promises of the document", 35, TEXTS.size());
    }

    /** Without the signs that only set it, and without the signature, which FaceTest looks at. */
    private static String plain(String text) {
        return text.replace("```text", " ").replace("```", " ").replaceAll("==== [0-9]\\.", " ")
                .replaceAll("(?m)^`[^`]*`: ", " ").replaceAll("\\s+", " ").trim();
    }

    /** What follows is a test of these words, which stand under that heading. */
    static void of(String heading, String words) {
        leaveLatest();
        latest = heading + ": \"" + words + "\"";
        askedAtLatest = Check.askedSoFar() + 1;
        Check.about(latest);
        String text = TEXTS.getOrDefault(heading, "");
        int at = text.indexOf(words);
        Check.due("stands in the document", 1, at >= 0 ? 1 : 0);
        while (at >= 0) {
            java.util.Arrays.fill(QUOTED.get(heading), at, at + words.length(), true);
            at = text.indexOf(words, at + 1);
        }
    }

    private static void leaveLatest() {
        if (!latest.isEmpty() && Check.askedSoFar() == askedAtLatest) {
            Check.due("has an answer that is looked at", 1, 0);
        }
        latest = "";
        Check.about("");
    }

    /** Of each clause (up to a stop, a semicolon or a colon) the greater part is in what tests are of. */
    static void allHaveTests() {
        leaveLatest();
        for (String heading : TEXTS.keySet()) {
            if (!heading.equals("What it is")) {
                checkClauses(heading);
            }
        }
    }

    private static void checkClauses(String heading) {
        String text = TEXTS.get(heading);
        boolean[] quoted = QUOTED.get(heading);
        int start = 0;
        for (int i = 0; i < text.length(); i++) {
            boolean last = i == text.length() - 1;
            if (last || ".;:".indexOf(text.charAt(i)) >= 0 && text.charAt(i + 1) == ' ') {
                int count = 0;
                for (int j = start; j <= i; j++) {
                    count += quoted[j] ? 1 : 0;
                }
                String clause = text.substring(start, i + 1).trim();
                Check.due(heading + ": a test of \"" + clause + "\"", 1, 2 * count >= clause.length() ? 1 : 0);
                start = i + 1;
            }
        }
    }
}
