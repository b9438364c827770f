import java.io.IOException;
import java.nio.file.Files;
import java.nio.file.Path;
import java.util.ArrayList;
import java.util.List;
import java.util.regex.Matcher;
import java.util.regex.Pattern;

/** Makes a test of the run of calls that README.md tells, so that its answers are those of the class. */
final class ReadmeRun {
    static final Path README = Path.of("README.md");
    static final String TEST = "ReadmeRunTest";
    private static final Pattern BLOCK = Pattern.compile("(?s)\n```java\n(.*?)\n```\n");
    private static final String NEW = "FamilyFields x = new FamilyFields();";
    private static final Pattern CALL = Pattern.compile("(?:int (\\w+) = )?(x\\.\\w+\\(.*\\)); +// (-?\\d+|BAD|NONE|STATE|FULL)(?:: .+)?");

    private ReadmeRun() {}

    /** Writes the test into the directory that is named first. */
    public static void main(String[] args) throws IOException {
        Files.writeString(Path.of(args[0], TEST + ".java"), testOf(Files.readString(README)));
    }

    /** All lines of the Java that the text tells: the method that makes names, then the run. */
    static List<String> lines(String text) {
        List<String> lines = new ArrayList<>();
        Matcher block = BLOCK.matcher(text);
        while (block.find()) lines.addAll(List.of(block.group(1).split("\n")));
        return lines;
    }

    static String testOf(String text) {
        StringBuilder members = new StringBuilder();
        StringBuilder run = new StringBuilder();
        for (String line : lines(text)) {
            if (run.isEmpty() && !line.equals(NEW)) members.append(line).append('\n');
            else run.append(line.equals(NEW) ? NEW : askOf(line)).append('\n');
        }
        if (run.isEmpty()) throw new IllegalArgumentException("there is no run of calls in " + README);
        return "final class " + TEST + " {\n" + members + "public static void main(String[] args) {\nDue due = new Due();\n"
            + run + "due.end();\n}\n}\n";
    }

    /** A call of the run, which then asks whether its answer is the one that stands behind it. */
    private static String askOf(String line) {
        Matcher call = CALL.matcher(line);
        if (!call.matches()) throw new IllegalArgumentException("this is no call with its answer: " + line);
        String kept = call.group(1), told = call.group(2).replace("\"", "\\\"");
        String answer = Character.isLetter(call.group(3).charAt(0)) ? "FamilyFields." + call.group(3) : call.group(3) + "L";
        String first = kept == null ? "" : "int " + kept + " = " + call.group(2) + ";\n";
        return first + "due.is(\"" + told + "\", " + (kept == null ? call.group(2) : kept) + ", " + answer + ");";
    }
}
