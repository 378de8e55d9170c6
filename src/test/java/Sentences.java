import java.io.IOException;
import java.nio.file.Files;
import java.nio.file.Path;
import java.util.ArrayList;
import java.util.List;

/**
 * The document, sentence by sentence. A test names the words that it holds the class to; words that the document does
 * not have, and sentences that no test has named, are told as wrong.
 */
final class Sentences {
    static final int TERMS = 0;
    /** The part behind the last promise: the document's first one. */
    static final int WHAT_IT_IS = 52;
    private static final Path DOCUMENT = Path.of("../shared/DOC.md");
    private static final String[] HEADINGS = {"Values, errors", "Copying, moving", "Ahead of the calls"};

    /**
     * The terms, then promise after promise, then what the class is; beside each character whether a test has named it.
     * The public face is left to LanguageTests, and what is not promised needs no test.
     */
    private final List<String> parts = new ArrayList<>();
    private final List<boolean[]> named = new ArrayList<>();
    private final Checks checks;

    Sentences(Checks checks) throws IOException {
        this.checks = checks;
        String document = Files.readString(DOCUMENT);
        String[] sections = document.substring(document.indexOf("## Terms")).split("\n## ");
        for (int place = 0; place < sections.length; place++) {
            if (place == TERMS || sections[place].startsWith("Promise " + place + ":")) {
                addPart(sections[place]);
            }
        }
        checks.due(WHAT_IT_IS, parts.size(), "the document has its terms and 51 promises");
        addPart(document.substring(document.indexOf("## What it is"), document.indexOf("## The public face")));
    }

    private void addPart(String section) {
        StringBuilder part = new StringBuilder();
        String[] lines = section.split("\n");
        for (int line = 1; line < lines.length; line++) {
            if (saysSomething(lines[line])) {
                part.append(plain(lines[line].replaceAll("^`.*?`: ", ""))).append('\n');
            }
        }
        parts.add(part.toString());
        named.add(new boolean[part.length()]);
    }

    private static boolean saysSomething(String line) {
        for (String heading : HEADINGS) {
            if (line.startsWith(heading)) {
                return false;
            }
        }
        return !line.isBlank() && !line.startsWith("#") && !line.startsWith("```");
    }

    private static String plain(String text) {
        return text.trim().replaceAll(" +", " ");
    }

    private static String nameOf(int part) {
        return part == TERMS ? "terms" : part == WHAT_IT_IS ? "what it is" : "promise " + part;
    }

    void name(int part, String words) {
        checks.about(nameOf(part) + ": " + words);
        int start = parts.get(part).indexOf(plain(words));
        checks.yes(start >= 0, "stands in the document");
        for (int place = start; start >= 0 && place < start + plain(words).length(); place++) {
            named.get(part)[place] = true;
        }
    }

    /** Tells what no test has named. */
    void end() {
        for (int part = 0; part < parts.size(); part++) {
            StringBuilder left = new StringBuilder();
            for (int place = 0; place < parts.get(part).length(); place++) {
                left.append(named.get(part)[place] ? '\n' : parts.get(part).charAt(place));
            }
            for (String words : left.toString().split("\n")) {
                checks.about(nameOf(part));
                checks.no(words.matches(".*[A-Za-z0-9].*"), "has a sentence without a test: " + words.trim());
            }
        }
    }
}
