import java.io.IOException;
import java.nio.file.Files;
import java.nio.file.Path;
import java.util.LinkedHashMap;
import java.util.Map;
import java.util.regex.Pattern;

/** ../shared/DOC.md by its sections: which of its words a test has named, and which none has. */
final class Document {
    private static final Path PLACE = Path.of("../shared/DOC.md");
    private static final Map<String, Section> SECTIONS = new LinkedHashMap<>();

    private static final class Section {
        final String words;
        final boolean[] isNamed;

        Section(String words) {
            this.words = words;
            this.isNamed = new boolean[words.length()];
        }

        /** The first place that none has named yet, so that words that stand twice can be named twice. */
        boolean name(String quote) {
            int any = words.indexOf(quote);
            for (int at = any; at >= 0; at = words.indexOf(quote, at + 1)) {
                if (!isNamed[at]) {
                    mark(at, quote.length());
                    return true;
                }
            }
            return any >= 0;
        }

        private void mark(int from, int length) {
            for (int i = from; i < from + length; i++) isNamed[i] = true;
        }

        String leftOver() {
            StringBuilder rest = new StringBuilder();
            for (int i = 0; i < isNamed.length; i++) rest.append(isNamed[i] ? ' ' : words.charAt(i));
            return plain(rest.toString());
        }
    }

    private Document() {
    }

    /** Says whether the section has these words, and keeps that a test has named them. */
    static boolean name(String section, String quote) {
        read();
        if (SECTIONS.isEmpty()) return true;
        Section named = SECTIONS.get(section);
        return named != null && named.name(quote);
    }

    /** Tells each run of words in "Terms" and the promises that no test has named; says how many. */
    static int tellLeftOver() {
        read();
        if (SECTIONS.isEmpty()) System.out.println("no document at " + PLACE + ": its words are not looked up");
        int many = 0;
        for (Map.Entry<String, Section> entry : SECTIONS.entrySet()) {
            boolean counts = entry.getKey().equals("Terms") || entry.getKey().startsWith("Promise ");
            String rest = entry.getValue().leftOver();
            if (!counts || !Pattern.compile("[A-Za-z0-9]").matcher(rest).find()) continue;
            System.out.println("no test names of " + entry.getKey() + ": " + rest);
            many++;
        }
        return many;
    }

    private static void read() {
        if (!SECTIONS.isEmpty() || !Files.exists(PLACE)) return;
        for (String part : text().split("(?m)^## ")) {
            int line = part.indexOf('\n');
            if (line < 0) continue;
            String heading = part.substring(0, line).replaceAll("^(Promise \\d+):.*", "$1");
            SECTIONS.put(heading, new Section(plain(withoutMarks(part.substring(line)))));
        }
    }

    private static String text() {
        try {
            return Files.readString(PLACE);
        } catch (IOException e) {
            throw new IllegalStateException("it can't be read: " + PLACE, e);
        }
    }

    /** Leaves out fences, rules, the lines about the interface, and what a promise's call looks like. */
    private static String withoutMarks(String section) {
        return section.replaceAll("(?m)^```.*$", " ").replaceAll("(?m)^======== \\d ", " ")
            .replaceAll("(?m)^Ahead of the calls.*$", " ").replaceAll("(?m)^`[^`]*\\([^`]*\\)`: ", " ");
    }

    private static String plain(String words) {
        return words.replaceAll("\\s+", " ").trim();
    }
}
