/** Promises 26 to 28. */
public final class ConstantsTest {
    private static final int NONE = FamilyFields.NONE, BAD = FamilyFields.BAD;
    private static final long LEAST = Long.MIN_VALUE;
    private static final Due due = new Due();

    public static void main(String[] args) {
        names();
        namesOfFailed();
        bodies();
        bodiesGoRound();
        wrongWork();
        workOfFailed();
        whoStarted();
        due.end();
    }

    /** Constants a, b, c, d, of which b, c, d are bodied. */
    private static FamilyFields withConstants() {
        FamilyFields x = new FamilyFields();
        x.enumeration();
        for (int c = 0; c < 4; c++) x.constant(0, 'a' + c, c > 0);
        return x;
    }

    private static void names() {
        FamilyFields x = withConstants();
        due.is("named(1, a)", x.named(1, 'a'), BAD);
        due.is("named(-1, a)", x.named(-1, 'a'), BAD);
        due.is("nothing started", x.started(0), NONE);
        due.is("named(0, x)", x.named(0, 'x'), -18);
        due.is("it started by that", x.started(0), 10);
        due.is("named(0, 0), which is no name", x.named(0, 0), -18);
        for (int c = 0; c < 4; c++) due.is("named", x.named(0, 'a' + c), c);
        due.is("it started once", x.started(1), NONE);
        due.is("cause(0) after named() alone", x.cause(0), 0);
    }

    private static void namesOfFailed() {
        FamilyFields x = withConstants();
        x.fails(0, true);
        due.is("named(0, x): INIT ahead", x.named(0, 'x'), -19);
        due.is("named(0, a): NOT", x.named(0, 'a'), -20);
        due.is("named(0, a): NOT again", x.named(0, 'a'), -20);
        due.is("nobody started", x.started(0), NONE);
        due.is("cause(0): only of make() and load()", x.cause(0), 0);
        x.build();
        due.is("named(0, a) in the next build: INIT", x.named(0, 'a'), -19);
        x.build();
        x.fails(0, false);
        due.is("named(0, a)", x.named(0, 'a'), 0);
    }

    private static void bodies() {
        FamilyFields x = withConstants();
        long[][] ways = {{10, 10, 10}, {32, -22, 11}, {35, 110, 12}, {38, -28, 13}};
        for (int c = 0; c < 4; c++) {
            for (int way = 0; way < 3; way++) due.is("work(0, " + c + ", " + way + ", 10)", x.work(0, c, way, 10), ways[c][way]);
        }
        due.is("it started", x.started(0), 10);
        x.exchange(0, 0, 3);
        due.is("a plain one with odd ordinal, ONCE", x.work(0, 3, 0, 10), 13);
        due.is("a plain one with odd ordinal, TWICE", x.work(0, 3, 1, 10), 16);
        due.is("a bodied one with ordinal 0, TWICE", x.work(0, 0, 1, 10), 86);
    }

    private static void bodiesGoRound() {
        FamilyFields x = withConstants();
        int most = Integer.MAX_VALUE, least = Integer.MIN_VALUE;
        due.is("PLAIN", x.work(0, 1, 2, most), least);
        due.is("ONCE", x.work(0, 1, 0, most), (int) (3L * (most + 1L) - 1));
        due.is("TWICE, odd", x.work(0, 1, 1, least), least - (3 * (least + 1) - 1));
        due.is("TWICE, even", x.work(0, 2, 1, most), 3 * (3 * (most + 2) - 1 + 2) - 1);
    }

    private static void wrongWork() {
        FamilyFields x = withConstants();
        x.fails(0, true);
        due.is("no enumeration", x.work(1, 0, 0, 1), LEAST);
        due.is("no enumeration", x.work(-1, 0, 0, 1), LEAST);
        due.is("no constant", x.work(0, 4, 0, 1), LEAST);
        due.is("no constant", x.work(0, -1, 0, 1), LEAST);
        due.is("no way", x.work(0, 0, 3, 1), LEAST);
        due.is("no way", x.work(0, 0, -1, 1), LEAST);
        due.is("none of these tried to start it", x.named(0, 'a'), -19);
    }

    private static void workOfFailed() {
        FamilyFields x = withConstants();
        x.fails(0, true);
        due.is("INIT", x.work(0, 0, 0, 1), LEAST + 9);
        due.is("NOT", x.work(0, 0, 2, 1), LEAST + 10);
        due.is("nobody started", x.started(0), NONE);
    }

    private static void whoStarted() {
        FamilyFields x = new FamilyFields();
        for (int e = 0; e < 4; e++) x.enumeration();
        for (int r = 0; r < 6; r++) x.record();
        int[] order = {5, 13, 0, 10, 3, 11, 1, 12, 2, 4};
        for (int who : order) {
            if (who < 10) x.make(who);
            else x.named(who - 10, 'a');
        }
        for (int i = 0; i < 10; i++) due.is("started(" + i + ")", x.started(i), order[i]);
        for (int i : new int[] {-1, 10, Integer.MIN_VALUE, Integer.MAX_VALUE}) due.is("started(" + i + ")", x.started(i), NONE);
        x.build();
        due.is("started(0) in the next build", x.started(0), NONE);
        x.make(4);
        due.is("started(0) then", x.started(0), 4);
    }
}
