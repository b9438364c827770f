import java.io.IOException;
import java.nio.file.DirectoryStream;
import java.nio.file.Files;
import java.nio.file.Path;
import java.util.ArrayList;
import java.util.List;
import java.util.regex.Matcher;
import java.util.regex.Pattern;

/** README.md tells every call in its group, uses each in its run of calls, and tells how to run every test. */
public final class ReadmeTest {
    private static final Path SOURCE = Path.of("src/main/java/FamilyFields.java");
    private static final Pattern HEAD = Pattern.compile("    (?:// ---- (.+)|public (?:int|long) (\\w+)\\((.*)\\) \\{)");
    private static final Pattern TOLD = Pattern.compile("### (.+)|\\| `(\\w+\\(.*\\))` \\| .+ \\|");
    private static final Due due = new Due();

    public static void main(String[] args) throws IOException {
        String readme = Files.readString(ReadmeRun.README);
        List<String> calls = callsOfTheClass();
        due.is("calls of the class, with five groups", calls.size(), 34 + 5);
        List<String> told = callsTold(readme);
        due.holds("the calls by their groups are " + calls + ", not " + told, told.equals(calls));
        String run = String.join("\n", ReadmeRun.lines(readme));
        for (String call : calls) {
            int end = call.indexOf('(');
            if (end > 0) due.holds("the run has " + call, run.contains("x." + call.substring(0, end + 1)));
        }
        wrongAnswersAreSeen(readme);
        tests(readme);
        due.end();
    }

    /** The groups, as their comments in the source tell them, each with its calls. */
    private static List<String> callsOfTheClass() throws IOException {
        List<String> calls = new ArrayList<>();
        for (String line : Files.readAllLines(SOURCE)) {
            Matcher head = HEAD.matcher(line);
            if (!head.matches()) continue;
            if (head.group(1) != null) calls.add(head.group(1));
            else calls.add(head.group(2) + "(" + head.group(3).replaceAll("\\b(int|long|boolean) ", "") + ")");
        }
        return calls;
    }

    private static List<String> callsTold(String readme) {
        List<String> calls = new ArrayList<>();
        for (String line : readme.split("\n")) {
            Matcher told = TOLD.matcher(line);
            if (told.matches()) calls.add(told.group(1) != null ? told.group(1).toLowerCase() : told.group(2));
        }
        return calls;
    }

    /** A run whose answers are not told would be no run that is tested. */
    private static void wrongAnswersAreSeen(String readme) {
        String test = ReadmeRun.testOf(readme);
        due.holds("an answer is asked", test.contains("due.is(\"x.size(points)\", x.size(points), 2L);"));
        due.holds("a name is asked", test.contains("due.is(\"x.record()\", x.record(), FamilyFields.STATE);"));
        long asked = test.lines().filter(l -> l.startsWith("due.is(")).count();
        due.is("calls that are asked", asked, ReadmeRun.lines(readme).stream().filter(l -> l.contains("x.")).count());
        for (String unasked : new String[] {"x.size(points);", "x.size(points);  // two", "int n = x.size(points);", "x.size(points)  // 2"}) {
            boolean isSeen = false;
            try {
                ReadmeRun.testOf(readme.replaceFirst("x\\.size\\(points\\);.*", unasked));
            } catch (IllegalArgumentException e) {
                isSeen = true;
            }
            due.holds("it is seen that no answer is told: " + unasked, isSeen);
        }
    }

    private static void tests(String readme) throws IOException {
        String how = readme.substring(readme.indexOf("## How to run its tests"));
        due.holds("how to run the tests", how.contains("\n    .ci/run\n"));
        try (DirectoryStream<Path> files = Files.newDirectoryStream(Path.of("src/test/java"), "*Test.java")) {
            for (Path file : files) {
                String name = file.getFileName().toString().replace(".java", "");
                due.holds("README.md names " + name, how.contains("`" + name + "`"));
            }
        }
    }
}
