import java.util.ArrayList;
import java.util.List;

/** Collects the calls whose answer is not the one that is due; a test ends by calling end(). */
final class Due {
    private static final int SHOWN = 20;
    private final List<String> wrong = new ArrayList<>();
    private String sentence = "";
    private int asked;

    /** What is asked from here on holds the class to this sentence of a promise. */
    void promise(int number, String words) {
        sentence = "promise " + number + ", '" + words + "': ";
    }

    /** What is asked from here on holds the class to this sentence of the document's terms, on which promises rest. */
    void term(String words) {
        sentence = "terms, '" + words + "': ";
    }

    void is(String call, long got, long due) {
        asked++;
        if (got != due) wrong.add(sentence + call + " answered " + got + ", due is " + due);
    }

    void holds(String what, boolean does) {
        asked++;
        if (!does) wrong.add(sentence + "does not hold: " + what);
    }

    void end() {
        for (int i = 0; i < Math.min(SHOWN, wrong.size()); i++) System.out.println(wrong.get(i));
        System.out.println(wrong.isEmpty() ? asked + " answers are as due" : wrong.size() + " of " + asked + " are not");
        if (!wrong.isEmpty()) System.exit(1);
    }

    /** A text as a NAME, its first letter lowest. */
    static long name(String text) {
        long name = 0;
        for (int i = text.length() - 1; i >= 0; i--) name = name << 8 | text.charAt(i) & 0xff;
        return name;
    }
}
