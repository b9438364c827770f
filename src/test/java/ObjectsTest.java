/** Promises 19 to 25. */
public final class ObjectsTest {
    private static final int NONE = FamilyFields.NONE, BAD = FamilyFields.BAD;
    private static final Due due = new Due();

    public static void main(String[] args) {
        drafts();
        numbersFromTheDraft();
        wrongDrafts();
        makesEndAtAHundred();
        startsAheadOfChecks();
        failedStarts();
        checksOfNumbers();
        checksOfOthers();
        firstCheckThatFails();
        causes();
        toldAndOf();
        tags();
        sameness();
        samenessOfManyParts();
        due.end();
    }

    private static void drafts() {
        FamilyFields x = new FamilyFields();
        due.is("give(-1, 0)", x.give(-1, 0), BAD);
        due.is("give(6, 0)", x.give(6, 0), BAD);
        x.record();
        for (int p = 0; p < 6; p++) x.part(0, 'a' + p, 5, 0, 99);
        x.make(0);
        for (int p = 0; p < 6; p++) due.is("the draft at first", x.told(0, p), 0);
        for (int p = 0; p < 6; p++) due.is("give", x.give(p, Long.MIN_VALUE + 1 + p), 1);
        x.make(0);
        for (int p = 0; p < 6; p++) due.is("what was given", x.told(1, p), Long.MIN_VALUE + 1 + p);
        x.make(0);
        due.is("the draft stays", x.told(2, 5), Long.MIN_VALUE + 6);
        due.is("an object does not change with it", x.told(0, 5), 0);
    }

    private static void numbersFromTheDraft() {
        long[][] given = {
            {0, -2, 1}, {1, 200, -56}, {2, 0x18001, -32767}, {3, -1, 65535}, {4, 1L << 31, Integer.MIN_VALUE},
            {5, Long.MAX_VALUE, Long.MAX_VALUE}, {6, 0xffffffffL, 0x7fc00000}, {6, 0x80000000L, Integer.MIN_VALUE},
            {7, -1, 0x7ff8000000000000L}, {7, 1, 1},
        };
        for (long[] g : given) {
            FamilyFields x = new FamilyFields();
            x.record();
            x.part(0, 'a', (int) g[0], 0, 0);
            x.give(0, g[1]);
            due.is("make(0)", x.make(0), 0);
            due.is("sort " + g[0] + " of " + g[1], x.told(0, 0), g[2]);
        }
    }

    /** Record 0 has a part of the sort alone; record 1 has no part and is of family 0, record 2 is of none. */
    private static FamilyFields withPart(int sort, int of) {
        FamilyFields x = new FamilyFields();
        x.enumeration();
        for (int c = 0; c < 3; c++) x.constant(0, 'a' + c, c == 1);
        x.family();
        for (int r = 0; r < 3; r++) x.record();
        x.permit(0, false, 1);
        x.part(0, 'a', sort, of, 0);
        return x;
    }

    private static int makeOf(FamilyFields x, long bits) {
        x.give(0, bits);
        return x.make(0);
    }

    private static void wrongDrafts() {
        FamilyFields x = withPart(8, 0);
        due.is("make(3)", x.make(3), BAD);
        due.is("make(-1)", x.make(-1), BAD);
        for (long bits : new long[] {-2, 3, 1L << 32, Long.MIN_VALUE}) due.is("constant " + bits, makeOf(x, bits), BAD);
        due.is("nothing started", x.started(0), NONE);
        due.is("constant -1", makeOf(x, -1), 0);
        due.is("constant 2", makeOf(x, 2), 1);

        x = withPart(9, 0);
        for (long bits : new long[] {-1, 8, 1L << 32, Long.MIN_VALUE}) due.is("set " + bits, makeOf(x, bits), BAD);
        due.is("set 0", makeOf(x, 0), 0);
        due.is("set 7", makeOf(x, 7), 1);

        x = withPart(10, 4);
        due.is("no row yet", makeOf(x, 0), BAD);
        x.row(3, 1);
        x.row(4, 1);
        for (long bits : new long[] {-2, 0, 2, (1L << 32) + 1}) due.is("row " + bits, makeOf(x, bits), BAD);
        due.is("row -1", makeOf(x, -1), 0);
        due.is("row 1", makeOf(x, 1), 1);
        due.is("told(1, 0)", x.told(1, 0), 1);

        x = withPart(11, 0);
        due.is("no object yet", makeOf(x, 0), BAD);
        x.make(2);
        x.make(1);
        for (long bits : new long[] {-2, 0, 2, (1L << 32) + 1}) due.is("object " + bits, makeOf(x, bits), BAD);
        due.is("object -1", makeOf(x, -1), 2);
        due.is("object 1", makeOf(x, 1), 3);
        due.is("the cause is none by BAD", x.cause(0), 0);
    }

    private static void makesEndAtAHundred() {
        FamilyFields x = new FamilyFields();
        x.record();
        x.part(0, 'a', 4, 0, 0);
        x.check(0, 0, 2, 0, 0);
        x.enumeration();
        x.record();
        x.part(1, 'a', 8, 0, 0);
        due.is("one that fails does not count", makeOf(x, 0), -13);
        for (int i = 0; i < 100; i++) due.is("make(0)", makeOf(x, 1), i);
        due.is("make(0) once more", x.make(0), FamilyFields.FULL);
        due.is("FULL ahead of the code", makeOf(x, 0), FamilyFields.FULL);
        due.is("BAD ahead of FULL", x.make(1), BAD);
        x.give(0, -1);
        due.is("FULL of another record", x.make(1), FamilyFields.FULL);
        due.is("which did not start", x.started(1), NONE);
        due.is("keep(0)", x.keep(0), 0);
        due.is("load(0) is not by make()", x.load(0), 100);
        due.is("build()", x.build(), 101);
        for (int i = 0; i < 100; i++) due.is("make(0) in the next build", makeOf(x, 1), i);
        due.is("make(0) once more", x.make(0), FamilyFields.FULL);
    }

    private static void startsAheadOfChecks() {
        FamilyFields x = new FamilyFields();
        for (int e = 0; e < 4; e++) {
            x.enumeration();
            x.constant(e, 'a', false);
        }
        x.record();
        x.record();
        x.part(1, 'a', 8, 3, 0);
        x.part(1, 'b', 9, 2, 0);
        x.part(1, 'c', 8, 1, 0);
        x.part(1, 'd', 9, 0, 0);
        x.part(1, 'e', 4, 0, 0);
        x.check(1, 4, 2, 0, 0);
        x.give(2, -1);
        due.is("make(1): the check fails", x.make(1), -13);
        due.is("the record started", x.started(0), 1);
        due.is("then that of the constant", x.started(1), 13);
        due.is("none of an empty set, or of no constant", x.started(2), NONE);
        x.give(1, 1);
        x.give(2, 0);
        x.give(3, 1);
        x.give(4, 1);
        due.is("make(1)", x.make(1), 0);
        due.is("the enumeration of a set", x.started(2), 12);
        due.is("by parts in order", x.started(3), 11);
        due.is("the last", x.started(4), 10);
        due.is("make(0)", x.make(0), 1);
        due.is("another record", x.started(5), 0);
        due.is("no more", x.started(6), NONE);
    }

    private static void failedStarts() {
        FamilyFields x = withPart(4, 0);
        x.enumeration();
        x.constant(1, 'a', false);
        x.part(0, 'b', 8, 0, 0);
        x.part(0, 'c', 9, 1, 0);
        x.check(0, 0, 2, 0, 0);
        x.fails(1, true);
        x.give(2, 1);
        due.is("make(0): INIT ahead of checks", x.make(0), -19);
        due.is("cause(0)", x.cause(0), 9);
        due.is("cause(1)", x.cause(1), 0);
        due.is("cause(2)", x.cause(2), 2);
        due.is("cause(3)", x.cause(3), NONE);
        due.is("cause(4)", x.cause(4), NONE);
        due.is("what started stays so", x.started(1), 10);
        due.is("the other did not start", x.started(2), NONE);
        due.is("make(0): NOT", x.make(0), -20);
        x.fails(1, false);
        due.is("make(0): NOT from then on", x.make(0), -20);
        due.is("cause(0)", x.cause(0), 10);
        x.give(2, 0);
        due.is("make(0) with an empty set: the check", x.make(0), -13);
        x.build();
        x.give(2, 1);
        x.give(0, 1);
        due.is("make(0) in the next build", x.make(0), 0);
    }

    /** Whether a check of a part with these bits fails, by what make() answers. */
    private static void check(int sort, int kind, long a, long b, long bits, int answer) {
        FamilyFields x = withPart(sort, 0);
        x.check(0, 0, kind, a, b);
        due.is("check " + kind + " of sort " + sort + " with " + a + ", " + b + " of " + bits, makeOf(x, bits), answer);
        due.is("its cause", x.cause(0), answer == 0 ? 0 : -10 - answer);
    }

    private static void checksOfNumbers() {
        check(4, 0, -3, 3, -3, 0);
        check(4, 0, -3, 3, 3, 0);
        check(4, 0, -3, 3, 4, -11);
        check(4, 0, -3, 3, -4, -11);
        check(4, 0, 3, -3, 0, -11);
        check(0, 0, 1, 1, 0, -11);
        check(0, 0, 1, 1, 8, 0);
        check(3, 0, 65535, 65535, -1, 0);
        check(5, 0, Long.MIN_VALUE, Long.MIN_VALUE, Long.MIN_VALUE, 0);
        check(5, 0, (1L << 53) + 1, Long.MAX_VALUE, 1L << 53, -11);
        check(6, 0, -3, 3, Float.floatToIntBits(3f), 0);
        check(6, 0, -3, 3, Float.floatToIntBits(3.0000002f), -11);
        check(6, 0, -3, 3, Float.floatToIntBits(-3.0000002f), -11);
        check(6, 0, 0, 0, Float.floatToIntBits(-0f), 0);
        check(6, 0, Long.MIN_VALUE, Long.MAX_VALUE, Float.floatToIntBits(Float.NaN), -11);
        check(6, 0, Long.MIN_VALUE, Long.MAX_VALUE, Float.floatToIntBits(9.223372e18f), 0);
        check(6, 0, Long.MIN_VALUE, Long.MAX_VALUE, Float.floatToIntBits(Float.POSITIVE_INFINITY), -11);
        check(6, 0, 0, 1, Float.floatToIntBits(Float.MIN_VALUE), 0);
        check(6, 0, 0, 1, Float.floatToIntBits(-Float.MIN_VALUE), -11);
        check(7, 0, 1, 2, Double.doubleToLongBits(1.5), 0);
        check(7, 0, 1, 2, Double.doubleToLongBits(Math.nextUp(2.0)), -11);
        check(7, 0, 0, 0, Double.doubleToLongBits(-0.0), 0);
        check(7, 0, 0, 9, Double.doubleToLongBits(Double.NaN), -11);
        check(7, 0, (1L << 53) + 1, (1L << 53) + 1, Double.doubleToLongBits(0x1p53), 0);
        check(7, 0, Long.MAX_VALUE, Long.MAX_VALUE, Double.doubleToLongBits(0x1p63), 0);
        check(7, 0, Long.MIN_VALUE, 0, Double.doubleToLongBits(Double.NEGATIVE_INFINITY), -11);
        for (int sort = 1; sort <= 5; sort++) {
            check(sort, 2, 5, 0, 0, -13);
            check(sort, 2, 5, 0, -1, 0);
            check(sort, 2, Long.MIN_VALUE, 0, -1, 0);
        }
        check(1, 2, 1, 0, 256, -13);
        for (int sort = 1; sort <= 4; sort++) {
            check(sort, 3, 0, 0, -1, sort == 3 ? 0 : -14);
            check(sort, 3, 0, 0, -8, 0);
            check(sort, 3, 0, 0, -15, sort == 3 ? 0 : -14);
            check(sort, 3, 0, 0, 7, 0);
        }
        check(4, 3, 0, 0, Integer.MIN_VALUE, 0);
        check(1, 3, 0, 0, 255, -14);
    }

    private static void checksOfOthers() {
        check(8, 1, 0, 0, -1, -12);
        check(8, 1, 0, 0, 0, 0);
        check(10, 1, 0, 0, -1, -12);
        check(11, 1, 0, 0, -1, -12);
        check(10, 4, 0, 0, -1, -12);
        check(11, 5, 2, 0, -1, 0);
        check(8, 6, 0, 0, -1, 0);
        check(8, 6, 0, 0, 0, -17);
        check(8, 6, 0, 0, 1, 0);

        long[][] items = {{0, 0}, {2, 0}, {3, -15}, {-1, -15}, {1L << 32, -15}, {Long.MIN_VALUE, -15}};
        for (long[] i : items) {
            FamilyFields x = withPart(10, 4);
            x.check(0, 0, 4, i[0], 0);
            x.row(4, 3);
            due.is("item " + i[0] + " of three", makeOf(x, 0), i[1]);
        }
        long[][] casts = {{1, 1}, {2, -16}, {0, -16}, {(1L << 32) + 1, -16}, {-1, -16}};
        for (long[] c : casts) {
            FamilyFields x = withPart(11, 0);
            x.check(0, 0, 5, c[0], 0);
            x.make(1);
            due.is("an object of record 1 as of " + c[0], makeOf(x, 0), c[1]);
        }
    }

    private static void firstCheckThatFails() {
        FamilyFields x = new FamilyFields();
        x.record();
        x.part(0, 'a', 4, 0, 0);
        x.part(0, 'b', 4, 0, 0);
        x.check(0, 1, 0, 0, 9);
        x.check(0, 0, 2, 0, 0);
        x.check(0, 1, 2, 0, 0);
        due.is("make(0)", x.make(0), -13);
        due.is("by checks, not parts, in order", x.cause(2), 0);
        due.is("the check", x.cause(3), 1);
        x.give(0, 1);
        due.is("make(0)", x.make(0), -13);
        due.is("the part", x.cause(2), 1);
        due.is("the check", x.cause(3), 2);
        x.give(1, -1);
        due.is("make(0)", x.make(0), -11);
        due.is("the check", x.cause(3), 0);
        due.is("no object was made", x.count(4), 0);
    }

    private static void causes() {
        FamilyFields x = new FamilyFields();
        due.is("cause(0) at first", x.cause(0), 0);
        for (int what = 1; what < 5; what++) due.is("cause at first", x.cause(what), NONE);
        for (int what : new int[] {-1, 5, Integer.MIN_VALUE, Integer.MAX_VALUE}) {
            due.is("cause(" + what + ")", x.cause(what), Integer.MIN_VALUE);
        }
        x.record();
        x.record();
        x.part(1, 'a', 4, 0, 0);
        x.check(1, 0, 2, 0, 0);
        due.is("make(1)", x.make(1), -13);
        int[] causes = {3, 1, 0, 0, NONE};
        for (int what = 0; what < 5; what++) due.is("cause(" + what + ")", x.cause(what), causes[what]);
        due.is("make(0)", x.make(0), 0);
        due.is("it stays when one is made", x.cause(0), 3);
        due.is("make(2)", x.make(2), BAD);
        due.is("it stays when one is BAD", x.cause(1), 1);
    }

    private static void toldAndOf() {
        FamilyFields x = new FamilyFields();
        x.record();
        x.record();
        x.part(1, 'a', 4, 0, 0);
        x.give(0, 7);
        x.make(1);
        x.make(0);
        due.is("told(0, 0)", x.told(0, 0), 7);
        for (int[] none : new int[][] {{0, 1}, {0, -1}, {1, 0}, {2, 0}, {-1, 0}}) {
            due.is("told of none", x.told(none[0], none[1]), Long.MIN_VALUE);
        }
        due.is("of(0)", x.of(0), 1);
        due.is("of(1)", x.of(1), 0);
        due.is("of(2)", x.of(2), BAD);
        due.is("of(-1)", x.of(-1), BAD);
    }

    private static void tags() {
        FamilyFields x = new FamilyFields();
        x.family();
        for (int r = 0; r < 3; r++) x.record();
        x.permit(0, false, 2);
        x.permit(0, false, 0);
        for (int r = 0; r < 3; r++) x.make(r);
        due.is("tag(0, 0)", x.tag(0, 0), 1);
        due.is("tag(1, 0)", x.tag(1, 0), NONE);
        due.is("tag(2, 0)", x.tag(2, 0), 0);
        due.is("tag(3, 0)", x.tag(3, 0), BAD);
        due.is("tag(0, 1)", x.tag(0, 1), BAD);
    }

    private static void sameness() {
        FamilyFields x = new FamilyFields();
        x.record();
        x.record();
        x.part(0, 'a', 6, 0, 0);
        x.part(1, 'a', 6, 0, 0);
        x.part(0, 'b', 10, 4, 0);
        x.row(4, 1);
        x.row(4, 1);
        long[][] given = {{0x7fc00000L, 0}, {0xffc00001L, 0}, {0, 0}, {0x80000000L, 0}, {0, 1}};
        for (long[] g : given) {
            x.give(0, g[0]);
            x.give(1, g[1]);
            x.make(0);
        }
        x.give(0, 0);
        x.make(1);
        x.give(1, 0);
        x.make(0);
        due.is("what is no number is alike", x.same(0, 1), 1);
        due.is("two zeros are not", x.same(2, 3), 0);
        due.is("two rows are not, with items alike", x.same(2, 4), 0);
        for (int o = 0; o < 5; o++) due.is("of two records", x.same(o, 5), 0);
        due.is("alike", x.same(6, 2), 1);
        due.is("itself", x.same(0, 0), 1);
        due.is("same(0, 7)", x.same(0, 7), BAD);
        due.is("same(-1, 0)", x.same(-1, 0), BAD);
    }

    /** Two towers in which each object has the one below it six times: no way through all parts would end. */
    private static void samenessOfManyParts() {
        FamilyFields x = new FamilyFields();
        x.family();
        x.record();
        x.permit(0, false, 0);
        for (int p = 0; p < 6; p++) x.part(0, 'a' + p, 11, 0, 0);
        for (int i = 0; i < 100; i++) {
            for (int p = 0; p < 6; p++) x.give(p, i < 2 ? NONE : i - 2);
            due.is("make(0)", x.make(0), i);
        }
        due.is("the tops are the same", x.same(98, 99), 1);
        due.is("the lowest are the same", x.same(0, 1), 1);
        due.is("a floor apart they are not", x.same(97, 99), 0);
        due.is("a tower has a line each", x.keep(99), 49);
        due.is("the other has no room", x.keep(98), FamilyFields.FULL);
        due.is("but a part of it has", x.keep(26), 63);
        x.build();
        due.is("load(49)", x.load(49), 49);
        due.is("load(63)", x.load(63), 63);
        due.is("same(13, 63)", x.same(13, 63), 1);
    }
}
