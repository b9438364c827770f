import java.lang.reflect.Field;
import java.lang.reflect.Method;
import java.lang.reflect.Modifier;
import java.nio.file.Files;
import java.nio.file.Path;
import java.util.Arrays;
import java.util.Set;
import java.util.TreeSet;

/** The public face as the document has it, and the rules of LANGUAGE.md that can be told from class and text. */
public final class FaceTest {
    private static final String[] FACE = {
        "int enumeration()", "int constant(int, long, boolean)", "int exchange(int, int, int)", "int forget(int, int)",
        "int fails(int, boolean)", "int family()", "int permit(int, boolean, int)", "int record()",
        "int part(int, long, int, int, long)", "int without(int, int)", "int becomes(int, int, int, int)",
        "int check(int, int, int, long, long)", "int build()", "int row(int, int)", "int put(int, int, long)",
        "long item(int, int)", "int size(int)", "int give(int, long)", "int make(int)", "int cause(int)",
        "long told(int, int)", "int of(int)", "int tag(int, int)", "int same(int, int)", "int named(int, long)",
        "long work(int, int, int, int)", "int started(int)", "int keep(int)", "int load(int)", "int line(int, int)",
        "int word(long, long, int)", "int range(long, int, int, int, int)", "int count(int)", "int about(int, int)"};
    private static final Path SOURCE = Path.of("src/main/java/FamilyFields.java");
    private static final Due due = new Due();

    public static void main(String[] args) throws Exception {
        constants();
        methods();
        fields(FamilyFields.class);
        nested();
        text(Files.readString(SOURCE));
        due.end();
    }

    private static void constants() {
        due.is("NONE", FamilyFields.NONE, -1);
        due.is("BAD", FamilyFields.BAD, -1);
        due.is("STATE", FamilyFields.STATE, -2);
        due.is("FULL", FamilyFields.FULL, -3);
        due.holds("the class is public and final", FamilyFields.class.getModifiers() == (Modifier.PUBLIC | Modifier.FINAL));
        due.is("constructors", FamilyFields.class.getDeclaredConstructors().length, 1);
        due.is("public constructors", FamilyFields.class.getConstructors().length, 1);
    }

    private static String told(Method m) {
        StringBuilder text = new StringBuilder(m.getReturnType() + " " + m.getName() + "(");
        for (Class<?> type : m.getParameterTypes()) text.append(text.toString().endsWith("(") ? "" : ", ").append(type);
        return text.append(")").toString();
    }

    private static void methods() {
        Set<String> open = new TreeSet<>();
        Set<String> names = new TreeSet<>();
        for (Method m : FamilyFields.class.getDeclaredMethods()) {
            if (Modifier.isPrivate(m.getModifiers())) continue;
            due.holds(m + " is public and not static", m.getModifiers() == Modifier.PUBLIC);
            open.add(told(m));
            names.add(m.getName());
        }
        due.holds("the methods are those of the face: " + open, open.equals(new TreeSet<>(Arrays.asList(FACE))));
        for (Method m : FamilyFields.class.getDeclaredMethods()) {
            if (Modifier.isPrivate(m.getModifiers())) due.holds(m + " has a name of its own", !names.contains(m.getName()));
        }
        for (Class<?> c : FamilyFields.class.getDeclaredClasses()) {
            for (Method m : c.getDeclaredMethods()) due.holds(m + " has a name of its own", !names.contains(m.getName()));
        }
    }

    private static void fields(Class<?> type) {
        int own = 0;
        for (Field f : type.getDeclaredFields()) {
            int is = f.getModifiers();
            if (Modifier.isStatic(is)) {
                due.holds(f + " is final", Modifier.isFinal(is));
            } else {
                own++;
                if (type == FamilyFields.class) due.holds(f + " is private", Modifier.isPrivate(is));
            }
        }
        due.holds(type + " has some twenty fields at most", own <= 20);
    }

    private static void nested() {
        Class<?>[] classes = FamilyFields.class.getDeclaredClasses();
        due.holds("some twelve classes", classes.length + 1 <= 12);
        for (Class<?> c : classes) {
            due.holds(c + " is static", Modifier.isStatic(c.getModifiers()));
            due.holds(c + " is private", Modifier.isPrivate(c.getModifiers()));
            fields(c);
            for (Method m : c.getDeclaredMethods()) due.holds(m + " takes seven at most", m.getParameterCount() <= 7);
        }
    }

    private static void text(String source) {
        String code = source.replaceAll("(?s)/\\*.*?\\*/", " ").replaceAll("//[^\n]*", " ");
        Set<String> words = new TreeSet<>(Arrays.asList(code.split("[^A-Za-z0-9_]+")));
        String[] barred = {"throw", "throws", "try", "catch", "synchronized", "assert", "protected", "package", "float",
            "double", "Float", "Double", "Object", "Random", "System.out", "Thread", "equals", "hashCode", "toString"};
        for (String word : barred) due.holds("there is no " + word, !words.contains(word));
        for (String sign : new String[] {"->", "::", "@", "\""}) due.holds("there is no " + sign, !code.contains(sign));
        String[] imports = source.lines().filter(l -> l.startsWith("import ")).toArray(String[]::new);
        due.holds("imports", Arrays.equals(imports, new String[] {"import java.util.ArrayList;", "import java.util.Arrays;"}));
        longMethods(code);
    }

    /** A method's head and its last brace stand four or eight deep; so do those of a class, which may be long. */
    private static void longMethods(String code) {
        String[] lines = code.split("\n");
        int head = 0;
        for (int i = 0; i < lines.length; i++) {
            if (lines[i].matches("( {4}| {8})[a-zA-Z].*\\) \\{")) head = i;
            if (lines[i].matches(" {4}[a-zA-Z].* class .*\\{")) head = lines.length;
            if (lines[i].matches("( {4}| {8})}")) {
                due.holds("the method that ends on line " + (i + 1) + " is short", i - head < 60);
                head = lines.length;
            }
        }
    }
}
