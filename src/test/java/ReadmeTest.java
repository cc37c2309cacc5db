import java.io.IOException;
import java.nio.charset.StandardCharsets;
import java.nio.file.DirectoryStream;
import java.nio.file.Files;
import java.nio.file.Path;
import java.util.LinkedHashMap;
import java.util.Map;
import java.util.regex.Matcher;
import java.util.regex.Pattern;

/** README.md: its example answers as it says, and it names every call and every test. Run from the project's folder. */
public final class ReadmeTest {
    private static final Pattern TOLD = Pattern.compile("int (\\w+) = .*; +// (-?\\d+)");
    private static final Pattern CALL = Pattern.compile("public (?:int|boolean) (\\w+)\\(([^)]*)\\)");

    public static void main(String[] args) throws IOException {
        String readme = read("README.md");
        exampleIsThisOne(readme);
        exampleAnswers(readme);
        callsAreNamed(readme);
        testsAreNamed(readme);
        Due.end();
    }

    private static Map<String, Integer> example() {
        // example of README.md
        Saddletree tree = new Saddletree();
        int hide = tree.hide(9);
        int strap = tree.cut(hide, 0, 0, 4, 1, true);
        int hole = tree.pierce(strap, 8);
        int length = tree.buckle(strap, 0, 1, hole);
        int most = tree.holds(0, 1);
        int broken = tree.pull(0, 1, 68);
        int place = tree.find(hide, 2, 2, true, 9);

        int before = tree.back(0, 3, 10);
        int depth = tree.sinks(0, 0, 60);
        int sorer = tree.ride(0, 0, 2, 100, 2, 1);
        int sore = tree.sore(0, 3, 0);
        int rider = tree.cause(0, 3, Saddletree.BY_RIDER);
        // its end
        Map<String, Integer> answers = new LinkedHashMap<>(Map.of("hide", hide, "strap", strap, "hole", hole,
                "length", length, "most", most, "broken", broken, "place", place));
        answers.putAll(Map.of("before", before, "depth", depth, "sorer", sorer, "sore", sore, "rider", rider));
        return answers;
    }

    private static void exampleIsThisOne(String readme) throws IOException {
        String told = between(readme, "```java\n", "```").replaceAll(" +//.*", "");
        String run = between(read("src/test/java/ReadmeTest.java"), "// example of README.md\n", "// its end");
        Due.same("the example of README.md", told.strip(), run.replaceAll("(?m)^ +", "").strip());
    }

    private static void exampleAnswers(String readme) {
        Map<String, Integer> answers = example();
        Map<String, Integer> told = new LinkedHashMap<>();
        Matcher line = TOLD.matcher(between(readme, "```java\n", "```"));
        while (line.find()) {
            told.put(line.group(1), Integer.parseInt(line.group(2)));
        }
        Due.same("what README.md tells of the example", told, answers);
    }

    private static void callsAreNamed(String readme) throws IOException {
        Matcher call = CALL.matcher(between(read("../shared/DOC.md"), "```java\n", "```"));
        int calls = 0;
        while (call.find()) {
            String named = "`" + call.group(1) + "(" + call.group(2).replaceAll("(int|boolean) ", "") + ")`";
            Due.same("README.md names " + named, readme.contains(named), true);
            calls++;
        }
        Due.same("how many calls the face has", calls, 29);
    }

    private static void testsAreNamed(String readme) throws IOException {
        try (DirectoryStream<Path> tests = Files.newDirectoryStream(Path.of("src/test/java"), "*Test.java")) {
            for (Path test : tests) {
                String named = "`" + test.getFileName().toString().replace(".java", "") + "`";
                Due.same("README.md names " + named, readme.contains(named), true);
            }
        }
    }

    private static String between(String text, String start, String end) {
        int from = text.indexOf(start);
        int to = from < 0 ? -1 : text.indexOf(end, from + start.length());
        return to < 0 ? "" : text.substring(from + start.length(), to);
    }

    private static String read(String file) throws IOException {
        return Files.readString(Path.of(file), StandardCharsets.UTF_8);
    }
}
