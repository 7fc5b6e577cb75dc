import java.io.IOException;
import java.nio.file.Files;
import java.nio.file.Path;
import java.util.ArrayList;
import java.util.List;
import java.util.Set;
import java.util.TreeMap;
import java.util.regex.Matcher;
import java.util.regex.Pattern;

/**
 * Each sentence of the document is quoted by a test, from its first line to its last: the quotes stand in calls of
 * section() and promise(). Rows 'Throws' are RefusalTest's, which looks at each of them; signatures are FaceTest's.
 */
public final class LedgerTest {
    private static final List<String> QUOTING = List.of("DescriptionTest", "BoundaryTest", "ReadingTest", "RefusalTest");
    /** So much of a sentence may stand between its quotes: words that join them. */
    private static final int MOST_BETWEEN = 45;
    /** Sentences that ask for nothing that a call could answer. */
    private static final Set<String> NOTHING = Set.of(
        "A desk of facts and rules with nots, whose answer is kept and explained.",
        "Its calls: relations, facts told and taken back, rules drafted part by part and laid, groups, closures, two sides of rules.",
        "One asks what is in the answer and on which side, what a question from told places needs, why a row is there and by which"
            + " reasons, why another one is not, how a rule is best joined, whether a rule is contained in another one or needless, which"
            + " facts are to be wished, on which least facts the two sides differ, and what held when.",
        "Whole numbers.",
        "The constructor and the methods follow, a promise each: the signature, then what it does.",
        "How the state is held inside the object is free, as are the speed of each call, the text of toString and the behaviour of"
            + " equals and hashCode.",
        "Use of one object from several threads at once is not promised to be safe.",
        "Nothing is promised beyond the answers and state changes described above, and nothing about an object after its 512th call.");

    private static int wrong = 0;
    private static int sentences = 0;

    private static String oneLine(String s) {
        return s.replaceAll("\\s+", " ").trim();
    }

    /** The quotes of the tests by where they are from: "section 3", "promise 12". */
    private static TreeMap<String, List<String>> quotes() throws IOException {
        TreeMap<String, List<String>> all = new TreeMap<>();
        Pattern call = Pattern.compile("\\b(section|promise)\\((\\d+),\\s*((?:\"(?:[^\"\\\\]|\\\\.)*\"\\s*\\+?\\s*)+)\\)");
        Pattern text = Pattern.compile("\"((?:[^\"\\\\]|\\\\.)*)\"");
        for (String test : QUOTING) {
            Matcher m = call.matcher(Files.readString(Path.of("src/test/java/" + test + ".java")));
            while (m.find()) {
                StringBuilder quote = new StringBuilder();
                Matcher part = text.matcher(m.group(3));
                while (part.find()) quote.append(part.group(1).replace("\\\"", "\""));
                all.computeIfAbsent(m.group(1) + " " + m.group(2), k -> new ArrayList<>()).add(oneLine(quote.toString()));
            }
        }
        return all;
    }

    private static boolean isAsking(String line) {
        boolean isHeading = line.startsWith("#") || line.startsWith("==") || line.startsWith("----");
        boolean isSignature = line.startsWith("`") && line.endsWith("`") || line.contains(") throws ") && line.startsWith("`");
        boolean isArgument = line.startsWith("- ") && !Pattern.compile("\\d").matcher(line).find();
        return !line.isBlank() && !isHeading && !isSignature && !isArgument && !line.startsWith("Throws ");
    }

    private static void checkSentence(String place, String sentence, List<String> quotes) {
        sentences++;
        String left = sentence;
        for (String quote : quotes) {
            left = quote.contains(sentence) ? "" : left.replace(quote, "|");
        }
        for (String between : left.split("\\|")) {
            if (between.length() > MOST_BETWEEN || left.equals(sentence)) {
                wrong++;
                System.out.println(place + ", quoted by no test: " + between);
            }
        }
    }

    /** Longer quotes are taken out first, so that a short one does not cut them. */
    private static List<String> longestFirst(List<String> quotes) {
        List<String> sorted = new ArrayList<>(quotes);
        sorted.sort((a, b) -> b.length() - a.length());
        return sorted;
    }

    public static void main(String[] args) throws IOException {
        TreeMap<String, List<String>> quotes = quotes();
        String place = "section 0";
        boolean isCode = false;
        for (String line : Files.readAllLines(Path.of("../shared/DOC.md"))) {
            isCode ^= line.startsWith("```");
            if (line.startsWith("== ")) place = "section " + line.charAt(3);
            if (line.startsWith("A method that throws")) place = "section 0";
            if (line.startsWith("## Promise ")) place = "promise " + line.substring(11, line.indexOf(':'));
            if (line.startsWith("## Not promised")) place = "section 0";
            if (isCode || line.startsWith("```") || !isAsking(oneLine(line))) continue;
            for (String sentence : oneLine(line).split("(?<=\\.\\)?) (?=[A-Z(])")) {
                if (!NOTHING.contains(sentence)) {
                    checkSentence(place, sentence, longestFirst(quotes.getOrDefault(place, List.of())));
                }
            }
        }
        if (sentences < 100) {
            wrong++;
            System.out.println("the document has more than " + sentences + " sentences");
        }
        System.out.println(wrong == 0 ? "all " + sentences + " sentences are quoted" : wrong + " sentences are not quoted");
        System.exit(wrong == 0 ? 0 : 1);
    }
}
