/** Promises 1 to 14: types, and what a build takes away. */
public final class TypesTest {
    private static final int BAD = FamilyFields.BAD, STATE = FamilyFields.STATE, FULL = FamilyFields.FULL;
    private static final Due due = new Due();

    public static void main(String[] args) {
        newObject();
        enumerations();
        names();
        constants();
        exchanges();
        forgets();
        failures();
        families();
        members();
        leaves();
        records();
        parts();
        partsGo();
        partsBecome();
        checks();
        checksFitSorts();
        typesAreShutWhileThereAreObjects();
        builds();
        due.end();
    }

    private static void newObject() {
        FamilyFields x = new FamilyFields();
        for (int what = 0; what < 8; what++) due.is("count(" + what + ") of a new object", x.count(what), 0);
        for (int what = 0; what < 5; what++) due.is("about(0, " + what + ") of a new object", x.about(0, what), BAD);
        due.is("size(0)", x.size(0), BAD);
        due.is("of(0)", x.of(0), BAD);
        due.is("line(0, 0)", x.line(0, 0), BAD);
        due.is("started(0)", x.started(0), FamilyFields.NONE);
        due.is("cause(0)", x.cause(0), 0);
    }

    private static void enumerations() {
        FamilyFields x = new FamilyFields();
        for (int e = 0; e < 4; e++) due.is("enumeration()", x.enumeration(), e);
        due.is("enumeration() once more", x.enumeration(), FULL);
        due.is("count(0)", x.count(0), 4);
        due.is("about(3, 0)", x.about(3, 0), 0);
        due.is("about(4, 0)", x.about(4, 0), BAD);
    }

    private static void names() {
        FamilyFields x = new FamilyFields();
        x.enumeration();
        long[] wrong = {0, -1, 96, 123, 'A', 'a' << 8, 'a' | 'b' << 16, Due.name("abcdefgh") | Long.MIN_VALUE,
            Due.name("ab{"), Due.name("a b"), Due.name("abcdefg`"), Due.name("abc") | 1L << 56, 0xe1};
        for (long name : wrong) {
            due.is("constant(0, " + name + ", false)", x.constant(0, name, false), BAD);
        }
        due.is("constant a", x.constant(0, 'a', false), 0);
        due.is("constant z", x.constant(0, 'z', false), 1);
        due.is("constant abcdefgh", x.constant(0, Due.name("abcdefgh"), false), 2);
        due.is("constant zzzzzzzz", x.constant(0, Due.name("zzzzzzzz"), false), 3);
        due.is("constant az", x.constant(0, Due.name("az"), false), 4);
        due.is("constant za", x.constant(0, Due.name("za"), false), 5);
        x.record();
        for (long name : wrong) {
            due.is("part(0, " + name + ", 4, 0, 0)", x.part(0, name, 4, 0, 0), BAD);
        }
        due.is("about(0, 1)", x.about(0, 1), 0);
    }

    private static void constants() {
        FamilyFields x = new FamilyFields();
        due.is("constant of no enumeration", x.constant(0, 'a', false), BAD);
        x.enumeration();
        x.enumeration();
        due.is("constant(-1)", x.constant(-1, 'a', false), BAD);
        for (int c = 0; c < 8; c++) due.is("constant", x.constant(0, 'a' + c, c % 2 == 0), c);
        due.is("a ninth constant", x.constant(0, 'x', false), FULL);
        due.is("one that is there, ahead of FULL", x.constant(0, 'h', false), BAD);
        due.is("the same name in another one", x.constant(1, 'h', false), 0);
        due.is("about(0, 0)", x.about(0, 0), 8);
        due.is("named h", x.named(0, 'h'), 7);
    }

    private static FamilyFields withConstants(int n) {
        FamilyFields x = new FamilyFields();
        x.enumeration();
        for (int c = 0; c < n; c++) x.constant(0, 'a' + c, c % 2 == 1);
        return x;
    }

    private static void exchanges() {
        FamilyFields x = withConstants(4);
        due.is("exchange(0, 0, 3)", x.exchange(0, 0, 3), 1);
        due.is("a is now", x.named(0, 'a'), 3);
        due.is("d is now", x.named(0, 'd'), 0);
        due.is("b stays", x.named(0, 'b'), 1);
        due.is("d took its body along", x.work(0, 0, 0, 5), 14);
        due.is("a has none", x.work(0, 3, 0, 5), 8);
        due.is("exchange(0, 1, 1)", x.exchange(0, 1, 1), 1);
        due.is("b stays", x.named(0, 'b'), 1);
        due.is("exchange(0, 0, 4)", x.exchange(0, 0, 4), BAD);
        due.is("exchange(0, -1, 0)", x.exchange(0, -1, 0), BAD);
        due.is("exchange(1, 0, 0)", x.exchange(1, 0, 0), BAD);
    }

    private static void forgets() {
        FamilyFields x = withConstants(8);
        due.is("forget(0, 2)", x.forget(0, 2), 7);
        due.is("c is gone", x.named(0, 'c'), -18);
        due.is("b stays", x.named(0, 'b'), 1);
        due.is("d moved up", x.named(0, 'd'), 2);
        due.is("d took its body along", x.work(0, 2, 0, 5), 20);
        due.is("h moved up", x.named(0, 'h'), 6);
        due.is("forget(0, 6), the last", x.forget(0, 6), 6);
        due.is("forget(0, 6)", x.forget(0, 6), BAD);
        due.is("forget(0, -1)", x.forget(0, -1), BAD);
        due.is("forget(1, 0)", x.forget(1, 0), BAD);
        due.is("c comes again, behind the others", x.constant(0, 'c', false), 6);
        for (int left = 6; left >= 0; left--) due.is("forget(0, 0)", x.forget(0, 0), left);
        due.is("forget(0, 0) of none", x.forget(0, 0), BAD);
    }

    private static void failures() {
        FamilyFields x = withConstants(1);
        due.is("fails(0, true)", x.fails(0, true), 0);
        due.is("fails(0, true) again", x.fails(0, true), 1);
        due.is("fails(0, false)", x.fails(0, false), 1);
        due.is("fails(0, false) again", x.fails(0, false), 0);
        due.is("fails(1, true)", x.fails(1, true), BAD);
        due.is("fails(-1, true)", x.fails(-1, true), BAD);
        due.is("it does not fail", x.named(0, 'a'), 0);
        x.fails(0, true);
        due.is("it has started and stays so", x.named(0, 'a'), 0);
        x.build();
        due.is("it fails in the next build", x.named(0, 'a'), -19);
    }

    private static void families() {
        FamilyFields x = new FamilyFields();
        for (int f = 0; f < 3; f++) due.is("family()", x.family(), f);
        due.is("family() once more", x.family(), FULL);
        due.is("count(2)", x.count(2), 3);
    }

    private static void members() {
        FamilyFields x = new FamilyFields();
        for (int f = 0; f < 3; f++) x.family();
        for (int r = 0; r < 6; r++) x.record();
        due.is("permit(3, false, 0)", x.permit(3, false, 0), BAD);
        due.is("permit(-1, false, 0)", x.permit(-1, false, 0), BAD);
        due.is("permit(0, false, 6)", x.permit(0, false, 6), BAD);
        due.is("permit(0, false, -1)", x.permit(0, false, -1), BAD);
        due.is("permit(1, true, 1)", x.permit(1, true, 1), BAD);
        due.is("permit(1, true, 2)", x.permit(1, true, 2), BAD);
        due.is("permit(1, true, -1)", x.permit(1, true, -1), BAD);
        due.is("permit(1, true, 0)", x.permit(1, true, 0), 1);
        due.is("permit(1, true, 0) again", x.permit(1, true, 0), BAD);
        due.is("permit(1, false, 0), a record of that number", x.permit(1, false, 0), 2);
        due.is("permit(1, false, 0) again", x.permit(1, false, 0), BAD);
        due.is("permit(1, false, 1)", x.permit(1, false, 1), 3);
        due.is("permit(1, false, 2)", x.permit(1, false, 2), 4);
        due.is("permit(1, false, 3)", x.permit(1, false, 3), FULL);
        due.is("permit(1, false, 2), BAD ahead of FULL", x.permit(1, false, 2), BAD);
        due.is("about(1, 3)", x.about(1, 3), 4);
        due.is("about(0, 3)", x.about(0, 3), 0);
    }

    private static void leaves() {
        FamilyFields x = new FamilyFields();
        for (int f = 0; f < 3; f++) x.family();
        for (int r = 0; r < 6; r++) x.record();
        x.permit(2, false, 4);
        x.permit(2, true, 1);
        x.permit(2, false, 0);
        x.permit(2, true, 0);
        x.permit(1, false, 5);
        x.permit(1, true, 0);
        x.permit(0, false, 4);
        x.permit(0, false, 3);
        due.is("about(0, 4)", x.about(0, 4), 2);
        due.is("about(1, 4)", x.about(1, 4), 3);
        due.is("about(2, 4), each once", x.about(2, 4), 4);
        for (int r = 0; r < 6; r++) x.make(r);
        int[][] tags = {{-1, -1, 3}, {-1, -1, -1}, {-1, -1, -1}, {1, 2, 2}, {0, 1, 0}, {-1, 0, 1}};
        for (int r = 0; r < 6; r++) {
            for (int f = 0; f < 3; f++) due.is("tag of record " + r + " in family " + f, x.tag(r, f), tags[r][f]);
        }
    }

    private static void records() {
        FamilyFields x = new FamilyFields();
        for (int r = 0; r < 6; r++) due.is("record()", x.record(), r);
        due.is("record() once more", x.record(), FULL);
        due.is("count(1)", x.count(1), 6);
        due.is("about(5, 1)", x.about(5, 1), 0);
    }

    private static void parts() {
        FamilyFields x = new FamilyFields();
        due.is("part of no record", x.part(0, 'a', 4, 0, 0), BAD);
        x.record();
        x.record();
        due.is("part(0, a, -1)", x.part(0, 'a', -1, 0, 0), BAD);
        due.is("part(0, a, 12)", x.part(0, 'a', 12, 0, 0), BAD);
        due.is("a constant of no enumeration", x.part(0, 'a', 8, 0, 0), BAD);
        due.is("a set of no enumeration", x.part(0, 'a', 9, 0, 0), BAD);
        due.is("a row of no lane", x.part(0, 'a', 10, 8, 0), BAD);
        due.is("a row of no lane", x.part(0, 'a', 10, -1, 0), BAD);
        due.is("an object of no family", x.part(0, 'a', 11, 0, 0), BAD);
        x.enumeration();
        x.family();
        due.is("a constant of enumeration 1", x.part(0, 'a', 8, 1, 0), BAD);
        due.is("an object of family -1", x.part(0, 'a', 11, -1, 0), BAD);
        due.is("a flag, of does not matter", x.part(0, 'a', 0, -77, 0), 0);
        due.is("a double, of does not matter", x.part(0, 'b', 7, 99, 0), 1);
        due.is("a constant", x.part(0, 'c', 8, 0, -5), 2);
        due.is("a set", x.part(0, 'd', 9, 0, 99), 3);
        due.is("a row", x.part(0, 'e', 10, 7, 99), 4);
        due.is("a name that is there", x.part(0, 'e', 10, 7, 99), BAD);
        due.is("an object", x.part(0, 'f', 11, 0, 99), 5);
        due.is("a seventh part", x.part(0, 'g', 4, 0, 0), FULL);
        due.is("a name that is there, ahead of FULL", x.part(0, 'f', 4, 0, 0), BAD);
        due.is("a sort that is none, ahead of FULL", x.part(0, 'g', 12, 0, 0), BAD);
        due.is("the same name in another record", x.part(1, 'f', 4, 0, 0), 0);
        due.is("about(0, 1)", x.about(0, 1), 6);
    }

    private static void partsGo() {
        FamilyFields x = new FamilyFields();
        x.record();
        for (int p = 0; p < 4; p++) x.part(0, 'a' + p, 4, 0, 0);
        x.check(0, 3, 2, 0, 0);
        x.check(0, 1, 0, 1, 1);
        x.check(0, 0, 0, 0, 9);
        x.check(0, 1, 2, 1, 1);
        due.is("without(0, 1)", x.without(0, 1), 3);
        due.is("its checks went", x.about(0, 2), 2);
        due.is("without(0, 3)", x.without(0, 3), BAD);
        due.is("without(0, -1)", x.without(0, -1), BAD);
        due.is("without(1, 0)", x.without(1, 0), BAD);
        due.is("make(0): part d is 0", x.make(0), -13);
        due.is("the part is 2 now", x.cause(2), 2);
        due.is("the check is 0", x.cause(3), 0);
        x.give(2, 1);
        x.give(0, 10);
        due.is("make(0): part a is 10", x.make(0), -11);
        due.is("the part is 0", x.cause(2), 0);
        due.is("the check is 1 now", x.cause(3), 1);
        due.is("part b comes again, behind the others", x.part(0, 'b', 4, 0, 0), 3);
    }

    private static void partsBecome() {
        FamilyFields x = new FamilyFields();
        x.enumeration();
        x.constant(0, 'a', false);
        x.family();
        x.record();
        x.part(0, 'a', 4, 0, 7);
        x.part(0, 'b', 4, 0, 7);
        x.check(0, 0, 2, 0, 0);
        x.check(0, 1, 3, 0, 0);
        due.is("becomes(1, 0, 4, 0)", x.becomes(1, 0, 4, 0), BAD);
        due.is("becomes(0, 2, 4, 0)", x.becomes(0, 2, 4, 0), BAD);
        due.is("becomes(0, 0, 12, 0)", x.becomes(0, 0, 12, 0), BAD);
        due.is("becomes(0, 0, -1, 0)", x.becomes(0, 0, -1, 0), BAD);
        due.is("becomes(0, 0, 8, 1)", x.becomes(0, 0, 8, 1), BAD);
        due.is("becomes(0, 0, 10, 8)", x.becomes(0, 0, 10, 8), BAD);
        due.is("becomes(0, 0, 11, 1)", x.becomes(0, 0, 11, 1), BAD);
        due.is("no check went by that", x.about(0, 2), 2);
        due.is("becomes(0, 0, 8, 0)", x.becomes(0, 0, 8, 0), 4);
        due.is("its check went, the other stays", x.about(0, 2), 1);
        due.is("becomes(0, 0, 10, 2)", x.becomes(0, 0, 10, 2), 8);
        due.is("becomes(0, 0, 10, 3)", x.becomes(0, 0, 10, 3), 10);
        due.is("becomes(0, 0, 9, 0)", x.becomes(0, 0, 9, 0), 10);
        x.give(0, 1);
        x.give(1, -8);
        due.is("make(0)", x.make(0), 0);
        x.give(1, -7);
        due.is("the other's check is still there", x.make(0), -14);
        due.is("and is 0 now", x.cause(3), 0);
        due.is("and is of part 1", x.cause(2), 1);
    }

    private static void checks() {
        FamilyFields x = new FamilyFields();
        x.record();
        x.part(0, 'a', 4, 0, 0);
        due.is("check(1, 0, 0)", x.check(1, 0, 0, 0, 0), BAD);
        due.is("check(0, 1, 0)", x.check(0, 1, 0, 0, 0), BAD);
        due.is("check(0, -1, 0)", x.check(0, -1, 0, 0, 0), BAD);
        due.is("check(0, 0, -1)", x.check(0, 0, -1, 0, 0), BAD);
        due.is("check(0, 0, 7)", x.check(0, 0, 7, 0, 0), BAD);
        for (int c = 0; c < 4; c++) due.is("check(0, 0, 0, 9, -9)", x.check(0, 0, 0, 9, -9), c + 1);
        due.is("a fifth check", x.check(0, 0, 0, 0, 0), FULL);
        due.is("a check of another sort, ahead of FULL", x.check(0, 0, 1, 0, 0), BAD);
        due.is("about(0, 2)", x.about(0, 2), 4);
    }

    private static void checksFitSorts() {
        String[] sorts = {"0 1 2 3 4 5 6 7", "8 10 11", "1 2 3 4 5", "1 2 3 4", "10", "11", "8"};
        for (int kind = 0; kind < 7; kind++) {
            for (int sort = 0; sort < 12; sort++) {
                FamilyFields x = new FamilyFields();
                x.enumeration();
                x.family();
                x.record();
                x.part(0, 'a', sort, 0, 0);
                boolean fits = (" " + sorts[kind] + " ").contains(" " + sort + " ");
                due.is("check " + kind + " of sort " + sort, x.check(0, 0, kind, 0, 0), fits ? 1 : BAD);
            }
        }
    }

    private static void typesAreShutWhileThereAreObjects() {
        FamilyFields x = withConstants(8);
        x.record();
        x.family();
        x.part(0, 'a', 4, 0, 0);
        for (int c = 0; c < 4; c++) x.check(0, 0, 0, -9, 9);
        x.permit(0, false, 0);
        x.record();
        x.make(0);
        due.is("enumeration()", x.enumeration(), STATE);
        due.is("constant, STATE ahead of FULL", x.constant(0, 'x', false), STATE);
        due.is("constant, BAD ahead of STATE", x.constant(0, 'a', false), BAD);
        due.is("exchange", x.exchange(0, 0, 1), STATE);
        due.is("exchange, BAD ahead of STATE", x.exchange(0, 0, 8), BAD);
        due.is("forget", x.forget(0, 0), STATE);
        due.is("fails", x.fails(0, true), STATE);
        due.is("family()", x.family(), STATE);
        due.is("permit, BAD ahead of STATE", x.permit(0, false, 0), BAD);
        due.is("permit", x.permit(0, false, 1), STATE);
        due.is("record()", x.record(), STATE);
        due.is("part", x.part(0, 'b', 4, 0, 0), STATE);
        due.is("part, BAD ahead of STATE", x.part(0, 'a', 4, 0, 0), BAD);
        due.is("without", x.without(0, 0), STATE);
        due.is("becomes", x.becomes(0, 0, 5, 0), STATE);
        due.is("check, STATE ahead of FULL", x.check(0, 0, 0, 0, 0), STATE);
        due.is("nothing changed", x.count(0) + x.count(1) + x.count(2) + x.about(0, 0) + x.about(0, 1) + x.about(0, 2), 17);
        due.is("build() is open", x.build(), 1);
        due.is("a did not move", x.named(0, 'a'), 0);
        due.is("types are open again", x.enumeration(), 1);
        due.is("permit", x.permit(0, false, 1), 2);
    }

    private static void builds() {
        FamilyFields x = withConstants(1);
        x.record();
        x.part(0, 'a', 8, 0, 0);
        x.part(0, 'b', 4, 0, 0);
        x.check(0, 1, 2, 0, 0);
        x.give(1, 5);
        x.make(0);
        x.make(0);
        x.row(4, 1);
        x.keep(0);
        x.give(1, 0);
        due.is("make(0)", x.make(0), -13);
        due.is("build()", x.build(), 2);
        due.is("the objects went", x.count(4), 0);
        due.is("the rows went", x.count(3), 0);
        due.is("nothing has started", x.started(0), FamilyFields.NONE);
        due.is("the line stays", x.count(5), 1);
        due.is("the build", x.count(6), 1);
        due.is("the cause stays", x.cause(0), 3);
        x.give(1, 6);
        due.is("the draft stays", x.make(0), 0);
        due.is("part 0 of it", x.told(0, 0), 0);
        due.is("build() again", x.build(), 1);
        for (int b = 2; b < 1000; b++) due.is("build()", x.build(), 0);
        due.is("it is build 1000", x.count(6), 1000);
        due.is("build() in build 1000", x.build(), FULL);
        due.is("it stays build 1000", x.count(6), 1000);
    }
}
