import java.nio.file.DirectoryStream;
import java.nio.file.Files;
import java.nio.file.Path;
import java.util.ArrayList;
import java.util.HashSet;
import java.util.LinkedHashMap;
import java.util.LinkedHashSet;
import java.util.List;
import java.util.Map;
import java.util.Set;
import java.util.TreeSet;
import java.util.regex.Matcher;
import java.util.regex.Pattern;

/** Whether README.md tells what the program does and the document asks. */
public final class ReadmeTest {
    private static final Pattern EXAMPLE = Pattern.compile(
            "\"(?<page>[^\"]*)\"\\.toCharArray|gong\\.(?<name>\\w+)\\((?<arguments>[^)]*)\\);\\s*// (?<due>-?\\w+)");
    private static final Pattern ROW = Pattern.compile("(?m)^\\| `(\\w+\\([^)]*\\))` \\|([^|]*)\\|([^|]*)\\|$");
    private static final Pattern CONSTANT_ROW = Pattern.compile("(?m)^\\| `([A-Z]+)` \\| (-\\d+) \\|");
    private static final Pattern PROMISE = Pattern.compile("`(?:int|long) (\\w+)\\(([^)]*)\\)`: ([^#]*)");
    private static final Pattern REFUSAL = Pattern.compile("\\b(UNKNOWN|OUTSIDE|STATE|FULL)\\b");
    private static final Map<String, Integer> CONSTANTS = Map.of("NONE", GongTide.NONE, "UNKNOWN", GongTide.UNKNOWN,
            "OUTSIDE", GongTide.OUTSIDE, "STATE", GongTide.STATE, "FULL", GongTide.FULL);
    private static final int CALLS_OF_THE_FACE = 22;
    private static final int[] ARGUMENTS = {-1, 0, 1, 2, 3, 9, 12, 50, 200};

    private final String readme;
    private final Map<String, String> rows = new LinkedHashMap<>();

    private ReadmeTest(String readme) {
        this.readme = readme;
        Matcher row = ROW.matcher(readme);
        while (row.find()) {
            rows.put(row.group(1), row.group(2) + "|" + row.group(3));
        }
    }

    public static void main(String[] args) throws Exception {
        ReadmeTest test = new ReadmeTest(Files.readString(Path.of(args[0], "README.md")));
        test.examples();
        test.calls(Files.readString(Path.of(args[0], "../shared/DOC.md")));
        test.constants();
        test.tests(Path.of(args[0], "src/test/java"));
        Checks.end();
    }

    private void examples() {
        Checks.begin("the examples");
        GongTide gong = new GongTide();
        Set<String> shown = new HashSet<>();
        Matcher example = EXAMPLE.matcher(readme);
        while (example.find()) {
            if (example.group("page") != null) {
                for (char letter : example.group("page").toCharArray()) {
                    gong.letter(letter);
                }
                continue;
            }
            String call = (example.group("name") + " " + example.group("arguments").replace(", ", " ")).trim();
            String due = example.group("due");
            shown.add(example.group("name"));
            Checks.due(call, Calls.answer(gong, call),
                    CONSTANTS.containsKey(due) ? CONSTANTS.get(due) : Long.parseLong(due));
        }
        Checks.due("calls that are shown", shown.size(), CALLS_OF_THE_FACE);
    }

    /** Each call has a row, with the refusals that its promise tells, in their order, and that the program answers. */
    private void calls(String doc) {
        Checks.begin("the calls");
        List<String> told = new ArrayList<>();
        Matcher promise = PROMISE.matcher(doc);
        while (promise.find()) {
            String call = promise.group(1) + "(" + promise.group(2).replace("int ", "") + ")";
            String row = rows.getOrDefault(call, "|");
            told.add(call);
            Set<String> refusals = refusals(row.substring(row.indexOf('|')));
            Checks.due("refusals of " + call, refusals.toString(), refusals(promise.group(3)).toString());
            Set<String> answered = answered(promise.group(1), promise.group(2));
            Checks.due("NONE of " + call, String.valueOf(row.contains("`NONE`")),
                    String.valueOf(answered.remove("NONE")));
            Checks.due("what the program refuses by " + call, answered.toString(), new TreeSet<>(refusals).toString());
        }
        Checks.due("rows", rows.keySet().toString(), told.toString());
        Checks.due("how many", told.size(), CALLS_OF_THE_FACE);
    }

    private static Set<String> refusals(String text) {
        Set<String> refusals = new LinkedHashSet<>();
        Matcher refusal = REFUSAL.matcher(text);
        while (refusal.find()) {
            refusals.add(refusal.group(1));
        }
        return refusals;
    }

    private static Talk full() {
        Talk talk = Talk.of("h9,c0;01020399").then("strike 0 1").then("strike 0 1").write("h".repeat(25));
        for (int heard = 1; heard <= 6; heard++) {
            talk.then("hear 1 0 1 2");
        }
        return talk;
    }

    /** Which of the constants a call answers, in some states and with some arguments. */
    private static Set<String> answered(String name, String parameters) {
        Set<String> answered = new TreeSet<>();
        for (String arguments : arguments(parameters.isEmpty() ? 0 : parameters.split(",").length)) {
            for (Talk talk : new Talk[] {Talk.none(), Talk.ofAll(), full()}) {
                long answer = talk.told(name + arguments);
                CONSTANTS.forEach((constant, number) -> {
                    if (number == answer) {
                        answered.add(constant);
                    }
                });
            }
        }
        return answered;
    }

    private static List<String> arguments(int count) {
        List<String> all = List.of("");
        for (int i = 0; i < count; i++) {
            List<String> longer = new ArrayList<>();
            for (String ahead : all) {
                for (int argument : ARGUMENTS) {
                    longer.add(ahead + " " + argument);
                }
            }
            all = longer;
        }
        return all;
    }

    private void constants() {
        Checks.begin("the constants");
        int rowsFound = 0;
        Matcher row = CONSTANT_ROW.matcher(readme);
        while (row.find()) {
            rowsFound++;
            Checks.due(row.group(1), CONSTANTS.getOrDefault(row.group(1), 0), Integer.parseInt(row.group(2)));
        }
        Checks.due("refusals", rowsFound, 4);
        Checks.due("NONE is told", String.valueOf(readme.contains("`NONE` (" + GongTide.NONE + ")")), "true");
    }

    private void tests(Path folder) throws Exception {
        Checks.begin("the tests");
        try (DirectoryStream<Path> files = Files.newDirectoryStream(folder, "*Test.java")) {
            for (Path file : files) {
                String name = file.getFileName().toString().replace(".java", "");
                Checks.due(name, readme.contains("\n| `" + name + "` |") ? "has a row" : "has none", "has a row");
            }
        }
    }
}
