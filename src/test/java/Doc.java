import java.io.IOException;
import java.nio.file.Files;
import java.nio.file.Path;
import java.util.ArrayList;
import java.util.LinkedHashMap;
import java.util.List;
import java.util.Map;

/**
 * Quotes the document sentence by sentence, ahead of the answers that each asks for, and at the end holds the quotes
 * beside ../shared/DOC.md: no sentence of a section that is quoted is left out, and each has an answer behind it.
 */
final class Doc {
    static final String BEHIND_THE_TERMS = "Behind the terms";
    private static final Path FILE = Path.of("..", "shared", "DOC.md");
    private static final Map<String, StringBuilder> quotes = new LinkedHashMap<>();
    private static String section = "";
    private static String sentence = "";
    private static int answers = 1;

    private Doc() {
    }

    /** As "Term 1", "Promise 7", BEHIND_THE_TERMS, or a heading itself. */
    static void section(String name) {
        lookedAt();
        section = name;
        quotes.put(name, new StringBuilder());
    }

    static void says(String text) {
        lookedAt();
        sentence = text;
        answers = 0;
        StringBuilder all = quotes.get(section);
        all.append(all.length() == 0 ? "" : " ").append(text);
    }

    static void due(Object got, Object want) {
        answers++;
        Check.due(section + ": " + sentence, got, want);
    }

    /** The code of a routine, as Check shows it. */
    static void code(LineKeeper x, int r, String... items) {
        due(Check.items(x, r), List.of(items));
    }

    /** What is told of a name ahead of each ITEM and behind the last one. */
    static void told(LineKeeper x, int r, int f, int name, String... want) {
        List<String> got = new ArrayList<>();
        for (int k = 0; k <= x.routine(r, 0); k++) {
            got.add(Check.told(x, r, k, f, name));
        }
        due(got, List.of(want));
    }

    private static void lookedAt() {
        if (answers == 0) {
            Check.due(section + " has an answer behind: " + sentence, false, true);
        }
    }

    static void finish() throws IOException {
        lookedAt();
        if (Files.isReadable(FILE)) {
            String doc = Files.readString(FILE).replace("&lt;", "<");
            for (Map.Entry<String, StringBuilder> one : quotes.entrySet()) {
                Check.due(one.getKey() + " is quoted whole", one.getValue().toString(), body(doc, one.getKey()));
            }
        } else {
            System.out.println("no document at " + FILE + ": the quotes are not held beside it");
        }
        Check.finish();
    }

    private static String body(String doc, String name) {
        if (name.startsWith("Term ")) {
            return term(between(doc, "## Terms\n", "\nA refused call"), Integer.parseInt(name.substring(5)));
        }
        if (name.startsWith("Promise ")) {
            String text = between(doc, "## " + name + ":", "\n## ");
            return plain(text.substring(text.indexOf("`: ") + 3));
        }
        if (name.equals(BEHIND_THE_TERMS)) {
            return plain("A refused call" + between(doc, "\nA refused call", "\n## "));
        }
        return plain(between(doc, "## " + name + "\n", "\n## "));
    }

    private static String term(String terms, int n) {
        String head = n + ". ";
        String rest = between("\n" + terms + "\n" + (n + 1) + ". ", "\n" + head, "\n" + (n + 1) + ". ");
        return plain(rest.replace("```text", "").replace("```", ""));
    }

    private static String between(String text, String from, String to) {
        int start = text.indexOf(from);
        if (start < 0) {
            return "";
        }
        int end = text.indexOf(to, start + from.length());
        return text.substring(start + from.length(), end < 0 ? text.length() : end);
    }

    private static String plain(String text) {
        return text.replaceAll("\\s+", " ").trim();
    }
}
