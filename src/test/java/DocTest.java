import java.lang.reflect.Method;
import java.nio.file.Files;
import java.nio.file.Path;
import java.util.ArrayList;
import java.util.HashSet;
import java.util.List;
import java.util.Set;
import java.util.regex.Matcher;
import java.util.regex.Pattern;

/** Whether the cases quote the document rightly, and leave no word of its promises out. */
public final class DocTest {
    private static final Class<?>[] TESTS = {PageTest.class, HousesTest.class, StrokesTest.class, WouldBeTest.class,
        HeardTest.class, WeeksTest.class, WholeTest.class};
    private static final Pattern PROMISE = Pattern.compile("## Promise (\\d+): ([^#]*?) `[^`]*`: ([^#]*)");
    private static final Pattern CASE_NAME = Pattern.compile("p(\\d\\d)_(\\w+?)_\\w+");
    private static final int PROMISES = 23;

    /** A part of the document, and which of its letters are quoted. */
    private static final class Part {
        private final String name;
        private final String text;
        private final boolean[] quoted;

        Part(String name, String text) {
            this.name = name;
            this.text = text.trim();
            this.quoted = new boolean[text.length()];
        }

        boolean quote(String words) {
            int start = text.indexOf(words);
            for (int at = start; at >= 0; at = text.indexOf(words, at + 1)) {
                for (int i = at; i < at + words.length(); i++) {
                    quoted[i] = true;
                }
            }
            return start >= 0;
        }

        String leftOut() {
            StringBuilder left = new StringBuilder();
            for (int i = 0; i < text.length(); i++) {
                if (!quoted[i] && Character.isLetterOrDigit(text.charAt(i))) {
                    left.append(text.charAt(i));
                }
            }
            return left.toString();
        }
    }

    private final List<Part> promises = new ArrayList<>();
    private final List<Part> terms = new ArrayList<>();

    public static void main(String[] args) throws Exception {
        DocTest test = new DocTest(Files.readString(Path.of(args[0], "../shared/DOC.md")));
        Set<Integer> met = new HashSet<>();
        for (Class<?> type : TESTS) {
            for (Method method : Cases.of(type)) {
                met.add(test.look(method));
            }
        }
        Checks.begin("the document");
        Checks.due("promises that have cases", met.size(), PROMISES);
        test.promises.forEach(DocTest::isQuotedWhole);
        test.terms.forEach(DocTest::isQuotedWhole);
        Checks.end();
    }

    private DocTest(String doc) {
        String plain = doc.replaceAll("```(java|text)?|======== \\d", " ").replaceAll("\\s+", " ");
        Matcher matcher = PROMISE.matcher(plain);
        while (matcher.find()) {
            promises.add(new Part(matcher.group(2), matcher.group(3)));
        }
        Checks.due("promises in the document", promises.size(), PROMISES);
        terms.add(between(plain, "A COLONY is a text", "An object is used"));
        terms.add(between(plain, "## Terms", "Ahead of the calls `letter`"));
    }

    private static Part between(String text, String start, String end) {
        String part = text.substring(text.indexOf(start), text.indexOf(end));
        return new Part(start, part.startsWith("##") ? part.substring(start.length()) : part);
    }

    /** The number of the promise that a case belongs to. */
    private int look(Method method) {
        Checks.begin(method.getName());
        Matcher name = CASE_NAME.matcher(method.getName());
        int number = name.matches() ? Integer.parseInt(name.group(1)) : 0;
        if (number < 1 || number > promises.size()) {
            Checks.due("the name", "tells no promise", "one of them");
            return 0;
        }
        Part promise = promises.get(number - 1);
        String title = promise.name.equals("A new object") ? "newObject" : promise.name;
        Checks.due("the name of promise " + number, name.group(2), title);
        for (String words : method.getAnnotation(Says.class).value()) {
            boolean stands = promise.quote(words);
            for (Part part : terms) {
                stands |= part.quote(words);
            }
            Checks.due("'" + words + "'", stands ? "stands there" : "does not stand there", "stands there");
        }
        return number;
    }

    private static void isQuotedWhole(Part part) {
        Checks.due("what no case quotes of '" + part.name + "'", part.leftOut(), "");
    }
}
