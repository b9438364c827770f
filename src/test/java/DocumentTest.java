import java.io.IOException;
import java.nio.file.DirectoryStream;
import java.nio.file.Files;
import java.nio.file.Path;
import java.util.ArrayList;
import java.util.List;
import java.util.regex.Matcher;
import java.util.regex.Pattern;

/** The class has the face that the document tells, and each sentence of its terms and promises is quoted by a test. */
public final class DocumentTest {
    private static final Path DOCUMENT = Path.of("../shared/DOC.md"), SOURCE = Path.of("src/main/java/FamilyFields.java");
    private static final int PROMISES = 35;
    private static final Pattern QUOTE = Pattern.compile(
        "due\\.(?:promise\\(([^,\"]+), |term\\()((?:\"(?:[^\"\\\\]|\\\\.)*\"\\s*\\+?\\s*)+)\\)");
    private static final Due due = new Due();
    private static String document;
    private static boolean[] quoted;

    public static void main(String[] args) throws IOException {
        if (!Files.isReadable(DOCUMENT)) {
            System.out.println("there is no " + DOCUMENT + " here: nothing was compared");
            return;
        }
        String text = Files.readString(DOCUMENT);
        String source = Files.readString(SOURCE);
        face(text, source);
        groups(text, source);
        document = text.replaceAll("\\s+", " ");
        quoted = new boolean[document.length()];
        quotes();
        sentences();
        due.end();
    }

    private static void face(String text, String source) {
        Matcher block = Pattern.compile("(?s)```java\n(.*?)\n```").matcher(text);
        due.holds("the document tells a face", block.find());
        int open = 0;
        for (String line : block.group(1).split("\n")) {
            if (!line.contains("public ")) continue;
            open++;
            String declared = line.endsWith(");") ? line.substring(0, line.length() - 1) + " {" : line;
            due.holds("the class has: " + line.trim(), source.contains("\n" + declared + "\n"));
        }
        due.is("lines of the face: the class, its constants, its constructor and 34 methods", open, 37);
        due.is("public lines of the class", source.lines().filter(l -> l.trim().startsWith("public ")).count(), open);
    }

    private static void groups(String text, String source) {
        Matcher group = Pattern.compile("Ahead of the calls (.*) the interface says: ---- (.*)\\.\n").matcher(text);
        int groups = 0;
        while (group.find()) {
            groups++;
            String head = "// ---- " + group.group(2) + "\n";
            due.holds("there is " + head.trim(), source.contains(head));
            String part = source.substring(source.indexOf(head) + head.length()).split("    // ---- |    private ")[0];
            StringBuilder calls = new StringBuilder();
            Matcher call = Pattern.compile("    public \\w+ (\\w+)\\(").matcher(part);
            while (call.find()) calls.append(calls.length() == 0 ? "`" : ", `").append(call.group(1)).append('`');
            due.holds("ahead of " + group.group(1) + " stands " + head.trim() + ", behind it " + calls, calls.toString().equals(group.group(1)));
        }
        due.is("groups of calls", groups, 5);
    }

    private static void quotes() throws IOException {
        try (DirectoryStream<Path> files = Files.newDirectoryStream(Path.of("src/test/java"), "*Test.java")) {
            for (Path file : files) {
                Matcher quote = QUOTE.matcher(Files.readString(file));
                while (quote.find()) mark(quote.group(1), quote.group(2).replaceAll("\"\\s*\\+\\s*\"", "").replaceAll("^\"|\"\\s*$", ""));
            }
        }
    }

    /** Where the document says the words; those of a promise that is told by number must stand in that promise. */
    private static void mark(String promise, String words) {
        boolean isNumber = promise != null && promise.matches("\\d+");
        int from = isNumber ? startOf(Integer.parseInt(promise)) : 0;
        int to = isNumber ? startOf(Integer.parseInt(promise) + 1) : document.length();
        int at = document.indexOf(words, from);
        due.holds("the document says" + (isNumber ? " in promise " + promise : "") + ": " + words, at >= 0 && at < to);
        for (; at >= 0 && at < to; at = document.indexOf(words, at + 1)) {
            for (int i = at; i < at + words.length(); i++) quoted[i] = true;
        }
    }

    private static int startOf(int promise) {
        int at = document.indexOf(promise > PROMISES ? "## Not promised" : "## Promise " + promise + ": ");
        if (at < 0) throw new IllegalArgumentException("the document has no promise " + promise);
        return at;
    }

    private static void sentences() {
        whole("what it is", document.indexOf("## What it is") + "## What it is".length(), document.indexOf("## The public face"));
        int groups = document.indexOf("Ahead of the calls");
        whole("the terms", document.indexOf("## Terms") + "## Terms".length(), groups);
        for (int p = 1; p <= PROMISES; p++) {
            whole("promise " + p, document.indexOf("`: ", startOf(p)) + "`: ".length(), startOf(p + 1));
        }
    }

    private static void whole(String what, int from, int to) {
        List<String> unquoted = new ArrayList<>();
        StringBuilder words = new StringBuilder();
        for (int i = from; i <= to; i++) {
            if (i < to && !quoted[i]) {
                words.append(document.charAt(i));
                continue;
            }
            // Between two quotes only signs may be left, and the frames of blocks.
            if (words.toString().replace("```text", "").matches(".*[A-Za-z0-9].*")) unquoted.add(words.toString().trim());
            words.setLength(0);
        }
        due.holds("a test quotes all of " + what + "; none quotes " + unquoted, unquoted.isEmpty());
    }
}
