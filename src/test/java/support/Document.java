import java.io.IOException;
import java.nio.file.Files;
import java.nio.file.Path;
import java.util.ArrayList;
import java.util.List;

/** The document by its sections, so that a test can say which sentence it is for, in its own words. */
final class Document {
    private static final int PROMISES = 43;
    private static final int SECTIONS = 4;
    private final String text;

    Document() throws IOException {
        text = Files.readString(Path.of("../shared/DOC.md"));
    }

    private static String oneLine(String s) {
        return s.replaceAll("\\s+", " ").trim();
    }

    private String between(String from, String to) {
        int start = text.indexOf(from);
        int end = text.indexOf(to, start + 1);
        return start < 0 || end < 0 ? "" : text.substring(start, end);
    }

    private String promise(int number) {
        return between("## Promise " + number + ":", number == PROMISES ? "## Not promised" : "## Promise " + (number + 1) + ":");
    }

    /** Section 0 is all that stands before the promises, but for the four sections of the description. */
    private String description(int section) {
        if (section == 0) {
            return between("# Derivationdesk", "== 1.") + between("A method that throws", "## Promise 1:");
        }
        return between("== " + section + ".", section == SECTIONS ? "A method that throws" : "== " + (section + 1) + ".");
    }

    boolean promises(int number, String sentence) {
        return oneLine(promise(number)).contains(oneLine(sentence));
    }

    boolean describes(int section, String sentence) {
        return oneLine(description(section)).contains(oneLine(sentence));
    }

    /** What a promise throws, a row each, in its order. */
    List<String> thrownBy(int number) {
        List<String> rows = new ArrayList<>();
        for (String line : promise(number).split("\n")) {
            if (line.startsWith("Throws ")) rows.add(oneLine(line.substring(7).replace("`", "")));
        }
        return rows;
    }

    static int promises() {
        return PROMISES;
    }
}
