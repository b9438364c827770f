/** Promises 29 to 35. */
public final class TableTest {
    private static final int NONE = FamilyFields.NONE, BAD = FamilyFields.BAD, FULL = FamilyFields.FULL;
    private static final Due due = new Due();

    public static void main(String[] args) {
        keepsPartsFirst();
        keepsOnceInABuild();
        keepsRowsAsTheyAre();
        keepIsFull();
        loadsOnceInABuild();
        loadsStandards();
        partsThatMoved();
        sortsThatGo();
        constantsByName();
        setsLeaveOut();
        constantsBecomeSets();
        rowsAreMadeOnce();
        objectsOfParts();
        objectsOfOtherFamilies();
        loadsStartLate();
        loadsAreChecked();
        failuresInside();
        failuresAreTriedFromTheStart();
        keepCountsAnew();
        linesTell();
        words();
        ranges();
        counts();
        abouts();
        due.end();
    }

    /** Record 0 has parts a and b, objects of family 0, and c, an int; family 0 permits it. */
    private static FamilyFields withTree() {
        FamilyFields x = new FamilyFields();
        x.family();
        x.record();
        x.permit(0, false, 0);
        x.part(0, 'a', 11, 0, 0);
        x.part(0, 'b', 11, 0, 0);
        x.part(0, 'c', 4, 0, 0);
        return x;
    }

    private static int make(FamilyFields x, int record, long... bits) {
        for (int i = 0; i < bits.length; i++) x.give(i, bits[i]);
        return x.make(record);
    }

    private static void keepsPartsFirst() {
        FamilyFields x = withTree();
        make(x, 0, -1, -1, 10);
        make(x, 0, 0, -1, 11);
        make(x, 0, -1, -1, 12);
        make(x, 0, 2, 1, 13);
        make(x, 0, 3, 0, 14);
        due.is("keep(5)", x.keep(5), BAD);
        due.is("keep(-1)", x.keep(-1), BAD);
        due.is("keep(4)", x.keep(4), 4);
        due.is("count(5)", x.count(5), 5);
        int[] order = {2, 0, 1, 3, 4};
        for (int l = 0; l < 5; l++) due.is("keep(" + order[l] + ")", x.keep(order[l]), l);
        x.build();
        due.is("load(4)", x.load(4), 4);
        long[][] told = {{-1, -1, 12}, {-1, -1, 10}, {1, -1, 11}, {0, 2, 13}, {3, 1, 14}};
        for (int o = 0; o < 5; o++) {
            for (int p = 0; p < 3; p++) due.is("told(" + o + ", " + p + ")", x.told(o, p), told[o][p]);
        }
    }

    private static void keepsOnceInABuild() {
        FamilyFields x = withTree();
        make(x, 0, -1, -1, 1);
        make(x, 0, 0, 0, 2);
        due.is("keep(0)", x.keep(0), 0);
        due.is("keep(0) again", x.keep(0), 0);
        due.is("keep(1)", x.keep(1), 1);
        due.is("load(0) in the same build", x.load(0), 2);
        due.is("an object that was loaded is kept anew", x.keep(2), 2);
        due.is("count(5)", x.count(5), 3);
        x.build();
        make(x, 0, -1, -1, 1);
        due.is("keep(0) in the next build", x.keep(0), 3);
        due.is("its build", x.line(3, 1), 1);
    }

    private static void keepsRowsAsTheyAre() {
        FamilyFields x = new FamilyFields();
        x.record();
        x.part(0, 'a', 10, 5, 0);
        x.part(0, 'b', 10, 5, 0);
        x.row(5, 16);
        x.row(5, 0);
        for (int i = 0; i < 16; i++) x.put(0, i, 100 + i);
        make(x, 0, 0, 0);
        make(x, 0, 1, -1);
        x.keep(0);
        x.keep(1);
        x.put(0, 3, 77);
        due.is("load(0) in the same build", x.load(0), 2);
        due.is("a row of its own", x.told(2, 0), 2);
        due.is("a row each", x.told(2, 1), 3);
        due.is("item(2, 3) as it was", x.item(2, 3), 103);
        due.is("item(2, 15)", x.item(2, 15), 115);
        due.is("size(2)", x.size(2), 16);
        due.is("load(1)", x.load(1), 3);
        due.is("a row without items", x.size((int) x.told(3, 0)), 0);
        due.is("no row", x.told(3, 1), NONE);
        x.put(2, 3, 55);
        x.build();
        due.is("load(0)", x.load(0), 0);
        due.is("what is done to a loaded row is not kept", x.item(0, 3), 103);
        due.is("its lane", x.put(0, 0, 1L << 40) + x.item(0, 0), 1 + (1L << 40));
    }

    private static void keepIsFull() {
        FamilyFields x = withTree();
        for (int i = 0; i < 66; i++) make(x, 0, i - 1, -1, i);
        due.is("keep(64): 65 lines", x.keep(64), FULL);
        due.is("none is kept", x.count(5), 0);
        due.is("keep(61)", x.keep(61), 61);
        due.is("keep(64): three more", x.keep(64), FULL);
        due.is("keep(63)", x.keep(63), 63);
        due.is("keep(64)", x.keep(64), FULL);
        due.is("keep(10): it has its line", x.keep(10), 10);
        due.is("word(a, a, -1) over all lines", x.word('a', 'a', -1), 0);
        due.is("count(5)", x.count(5), 64);
        due.is("keep(66): BAD ahead of FULL", x.keep(66), BAD);
        x.build();
        due.is("load(63): all the chain", x.load(63), 63);
        due.is("count(4)", x.count(4), 64);
        due.is("told(63, 2)", x.told(63, 2), 63);
        due.is("make(0) beyond them", make(x, 0, 63, -1, 1), 64);
        due.is("keep of what was loaded", x.keep(0), FULL);
    }

    private static void loadsOnceInABuild() {
        FamilyFields x = withTree();
        make(x, 0, -1, -1, 5);
        x.keep(0);
        due.is("load(1)", x.load(1), BAD);
        due.is("load(-1)", x.load(-1), BAD);
        due.is("line(0, 3) before", x.line(0, 3), NONE);
        due.is("load(0)", x.load(0), 1);
        due.is("load(0) again", x.load(0), 1);
        due.is("line(0, 3)", x.line(0, 3), 1);
        due.is("count(4)", x.count(4), 2);
        x.build();
        due.is("line(0, 3) in the next build", x.line(0, 3), NONE);
        due.is("load(0) in the next build", x.load(0), 0);
        due.is("types are shut by what was loaded", x.enumeration(), FamilyFields.STATE);
    }

    private static void loadsStandards() {
        FamilyFields x = new FamilyFields();
        x.enumeration();
        x.constant(0, 'a', false);
        x.family();
        x.record();
        x.make(0);
        x.keep(0);
        x.build();
        x.part(0, 'a', 1, 0, 200);
        x.part(0, 'b', 6, 0, 0x7f812345L);
        x.part(0, 'c', 8, 0, 0);
        x.part(0, 'd', 9, 0, 1);
        x.part(0, 'e', 10, 0, 0);
        x.part(0, 'f', 11, 0, 0);
        due.is("load(0)", x.load(0), 0);
        long[] due0 = {-56, 0x7fc00000, -1, 0, -1, -1};
        for (int p = 0; p < 6; p++) due.is("told(0, " + p + ")", x.told(0, p), due0[p]);
        due.is("no enumeration started", x.started(1), NONE);
        x.build();
        x.becomes(0, 0, 4, 0);
        x.becomes(0, 2, 5, 0);
        x.becomes(0, 1, 9, 0);
        due.is("load(0)", x.load(0), 0);
        for (int p = 0; p < 4; p++) due.is("told(0, " + p + ") after becomes", x.told(0, p), 0);
    }

    private static void partsThatMoved() {
        FamilyFields x = new FamilyFields();
        x.record();
        for (int p = 0; p < 3; p++) x.part(0, 'a' + p, 5, 0, 90 + p);
        make(x, 0, 1, 2, 3);
        x.keep(0);
        x.build();
        x.without(0, 0);
        x.part(0, 'd', 5, 0, 93);
        x.part(0, 'a', 5, 0, 90);
        due.is("load(0)", x.load(0), 0);
        long[] told = {2, 3, 93, 1};
        for (int p = 0; p < 4; p++) due.is("told(0, " + p + ")", x.told(0, p), told[p]);
        due.is("line(0, 2)", x.line(0, 2), 3);
        due.is("keep(0)", x.keep(0), 1);
        due.is("line(1, 2)", x.line(1, 2), 4);
        x.build();
        x.without(0, 0);
        x.without(0, 0);
        due.is("load(1)", x.load(1), 0);
        due.is("told(0, 1)", x.told(0, 1), 1);
        due.is("told(0, 2)", x.told(0, 2), Long.MIN_VALUE);
    }

    private static void sortsThatGo() {
        String[] wider = {"", "2 4 5 6 7", "4 5 6 7", "4 5 6 7", "5 6 7", "6 7", "7", "", "9", "", "", ""};
        for (int from = 0; from < 12; from++) {
            for (int to = 0; to < 12; to++) {
                for (int of = 0; of < 2; of++) {
                    boolean asOne = from == to || (" " + wider[from] + " ").contains(" " + to + " ");
                    boolean goes = asOne && (of == 0 || from < 8 || from == 11);
                    sortGoes(from, to, of, goes);
                }
            }
        }
    }

    private static void sortGoes(int from, int to, int of, boolean goes) {
        FamilyFields x = new FamilyFields();
        for (int i = 0; i < 2; i++) x.enumeration();
        for (int i = 0; i < 2; i++) x.family();
        x.record();
        x.part(0, 'a', from, 0, 0);
        due.is("make(0)", make(x, 0, from < 8 || from == 9 ? 0 : -1), 0);
        x.keep(0);
        x.build();
        x.becomes(0, 0, to, of);
        due.is("load of sort " + from + " as " + to + " of " + of, x.load(0), goes ? 0 : -16);
        if (!goes) {
            int[] cause = {6, 0, 0, NONE, 0};
            for (int what = 0; what < 5; what++) due.is("cause(" + what + ")", x.cause(what), cause[what]);
            due.is("nobody started", x.started(0), NONE);
        }
    }

    /** Enumerations 0 and 1 with constants a, b, c; record 0 with part p, a constant, and q, a set of enumeration 0. */
    private static FamilyFields withConstants() {
        FamilyFields x = new FamilyFields();
        for (int e = 0; e < 2; e++) {
            x.enumeration();
            for (int c = 0; c < 3; c++) x.constant(e, 'a' + c, false);
        }
        x.record();
        x.part(0, 'p', 8, 0, 0);
        x.part(0, 'q', 9, 0, 0);
        return x;
    }

    private static void constantsByName() {
        FamilyFields x = withConstants();
        make(x, 0, 2, 5);
        make(x, 0, -1, 0);
        make(x, 0, 1, 7);
        for (int o = 0; o < 3; o++) x.keep(o);
        x.build();
        x.exchange(0, 0, 2);
        x.forget(0, 1);
        x.constant(0, 'x', false);
        due.is("load(0)", x.load(0), 0);
        due.is("c is now", x.told(0, 0), 0);
        due.is("a and c are now", x.told(0, 1), 3);
        due.is("load(1): none", x.load(1), 1);
        due.is("told(1, 0)", x.told(1, 0), NONE);
        due.is("told(1, 1)", x.told(1, 1), 0);
        due.is("load(2): b is unknown", x.load(2), -18);
        int[] cause = {8, 0, 0, NONE, 2};
        for (int what = 0; what < 5; what++) due.is("cause(" + what + ")", x.cause(what), cause[what]);
        due.is("the set behind it was not asked", x.count(7), 0);
        x.build();
        x.constant(0, 'b', false);
        due.is("load(2): b is known again", x.load(2), 0);
        due.is("b is now", x.told(0, 0), 3);
        due.is("a, b, c are now", x.told(0, 1), 11);
    }

    private static void setsLeaveOut() {
        FamilyFields x = withConstants();
        make(x, 0, -1, 7);
        x.keep(0);
        x.build();
        x.forget(0, 0);
        x.forget(0, 0);
        due.is("load(0)", x.load(0), 0);
        due.is("told(0, 1)", x.told(0, 1), 1);
        due.is("count(7)", x.count(7), 2);
        due.is("load(0) again: nothing is counted", x.load(0), 0);
        due.is("count(7)", x.count(7), 2);
        x.build();
        x.part(0, 'r', 4, 0, 0);
        x.check(0, 2, 2, 0, 0);
        due.is("load(0) fails by a check", x.load(0), -13);
        due.is("what was counted stays", x.count(7), 4);
        due.is("load(0) fails again", x.load(0), -13);
        due.is("and counts again", x.count(7), 6);
        x.forget(0, 0);
        x.becomes(0, 2, 5, 0);
        due.is("load(0): a set of none", x.load(0), 0);
        due.is("told(0, 1)", x.told(0, 1), 0);
        due.is("count(7)", x.count(7), 9);
    }

    private static void constantsBecomeSets() {
        FamilyFields x = withConstants();
        for (int c = -1; c < 3; c++) make(x, 0, c, 0);
        for (int o = 0; o < 4; o++) x.keep(o);
        x.build();
        x.becomes(0, 0, 9, 0);
        x.exchange(0, 0, 1);
        x.forget(0, 2);
        long[] sets = {0, 2, 1, 0};
        for (int l = 0; l < 4; l++) {
            due.is("load(" + l + ")", x.load(l), l);
            due.is("told(" + l + ", 0)", x.told(l, 0), sets[l]);
        }
        due.is("count(7): the unknown one", x.count(7), 1);
    }

    private static void rowsAreMadeOnce() {
        FamilyFields x = new FamilyFields();
        x.record();
        x.part(0, 'a', 10, 4, 0);
        x.part(0, 'b', 4, 0, 0);
        x.row(4, 2);
        x.put(0, 1, 9);
        make(x, 0, 0, 0);
        x.keep(0);
        x.build();
        x.check(0, 1, 2, 0, 0);
        x.row(4, 1);
        due.is("load(0) fails by the check", x.load(0), -13);
        due.is("the row was made", x.count(3), 2);
        x.put(1, 0, 8);
        due.is("load(0) fails again", x.load(0), -13);
        due.is("no other row was made", x.count(3), 2);
        x.becomes(0, 1, 5, 0);
        due.is("load(0)", x.load(0), 0);
        due.is("it has that row", x.told(0, 0), 1);
        due.is("as it is now", x.item(1, 0), 8);
        due.is("item(1, 1)", x.item(1, 1), 9);
        for (int i = 2; i < 41; i++) x.row(4, 0);
        due.is("forty by row()", x.row(4, 0), FULL);
        due.is("count(3)", x.count(3), 41);
        x.build();
        due.is("load(0)", x.load(0), 0);
        due.is("a new row in the next build", x.told(0, 0), 0);
        due.is("with the items as they were kept", x.item(0, 0), 0);
    }

    private static void objectsOfParts() {
        FamilyFields x = withTree();
        make(x, 0, -1, -1, 1);
        make(x, 0, 0, 0, 2);
        x.keep(1);
        x.build();
        due.is("load(0)", x.load(0), 0);
        due.is("load(1)", x.load(1), 1);
        due.is("its part is the one that was loaded", x.told(1, 0), 0);
        due.is("twice the same one", x.told(1, 1), 0);
        x.build();
        due.is("load(1)", x.load(1), 1);
        due.is("line(0, 3): it was loaded on the way", x.line(0, 3), 0);
        x.build();
        make(x, 0, -1, -1, 7);
        due.is("load(1) behind another object", x.load(1), 2);
        due.is("told(2, 0) is an object, not a line", x.told(2, 0), 1);
        x.build();
        x.without(0, 0);
        x.without(0, 0);
        due.is("load(1) without these parts", x.load(1), 0);
        due.is("line(0, 3): it was not loaded", x.line(0, 3), NONE);
    }

    private static void objectsOfOtherFamilies() {
        FamilyFields x = new FamilyFields();
        x.family();
        x.family();
        x.record();
        x.record();
        x.permit(0, false, 0);
        x.part(1, 'z', 4, 0, 0);
        x.part(1, 'a', 11, 0, 0);
        x.make(0);
        make(x, 1, 0, 0);
        x.keep(1);
        x.build();
        x.becomes(1, 1, 11, 1);
        due.is("load(1): of no leaf of that family", x.load(1), -16);
        int[] cause = {6, 1, 1, NONE, 1};
        for (int what = 0; what < 5; what++) due.is("cause(" + what + ")", x.cause(what), cause[what]);
        due.is("the object of the part stays", x.count(4), 1);
        due.is("line(0, 3)", x.line(0, 3), 0);
        due.is("only its record started", x.started(0), 0);
        due.is("only its record started", x.started(1), NONE);
        x.build();
        x.permit(1, true, 0);
        due.is("load(1): a family in the family", x.load(1), 1);
        due.is("told(1, 1)", x.told(1, 1), 0);
    }

    private static void loadsStartLate() {
        FamilyFields x = withConstants();
        x.family();
        x.permit(0, false, 0);
        x.record();
        x.part(1, 'p', 8, 1, 0);
        x.part(1, 'o', 11, 0, 0);
        make(x, 0, 1, 0);
        make(x, 1, 1, 0);
        x.keep(1);
        x.build();
        due.is("load(1)", x.load(1), 1);
        int[] order = {0, 10, 1, 11};
        for (int i = 0; i < 4; i++) due.is("started(" + i + ")", x.started(i), order[i]);
        x.build();
        x.forget(1, 1);
        due.is("load(1): unknown", x.load(1), -18);
        due.is("nobody started", x.started(0), NONE);
        due.is("the part behind it was not loaded", x.count(4), 0);
    }

    private static void loadsAreChecked() {
        FamilyFields x = new FamilyFields();
        x.record();
        x.part(0, 'a', 4, 0, 0);
        make(x, 0, 16777217);
        x.keep(0);
        x.build();
        x.becomes(0, 0, 6, 0);
        x.check(0, 0, 0, 16777217, 16777217);
        due.is("load(0): the float is less", x.load(0), -11);
        int[] cause = {1, 0, 0, 0, 0};
        for (int what = 0; what < 5; what++) due.is("cause(" + what + ")", x.cause(what), cause[what]);
        due.is("the record started", x.started(0), 0);
        x.becomes(0, 0, 7, 0);
        x.check(0, 0, 0, 16777217, 16777217);
        due.is("load(0): the double is not", x.load(0), 0);
        due.is("told(0, 0)", x.told(0, 0), Double.doubleToLongBits(16777217));
    }

    private static void failuresInside() {
        FamilyFields x = withTree();
        make(x, 0, -1, -1, 1);
        make(x, 0, -1, -1, 0);
        make(x, 0, 0, 1, 1);
        make(x, 0, 2, -1, 1);
        x.keep(3);
        x.build();
        x.check(0, 2, 2, 0, 0);
        due.is("load(3): its part's part fails", x.load(3), -13);
        int[] cause = {3, 0, 2, 0, 1};
        for (int what = 0; what < 5; what++) due.is("cause(" + what + ")", x.cause(what), cause[what]);
        due.is("what was loaded stays", x.count(4), 1);
        due.is("line(0, 3)", x.line(0, 3), 0);
        due.is("line(1, 3)", x.line(1, 3), NONE);
        due.is("load(3) again", x.load(3), -13);
        due.is("nothing is loaded twice", x.count(4), 1);
        due.is("a make() that fails", make(x, 0, -1, -1, 0), -13);
        due.is("has no line", x.cause(4), NONE);
    }

    /** What fails in its last part is loaded from its first part on when it is tried again. */
    private static void failuresAreTriedFromTheStart() {
        FamilyFields x = withTree();
        make(x, 0, -1, -1, 6);
        make(x, 0, 0, -1, 7);
        x.keep(1);
        x.build();
        x.becomes(0, 2, 1, 0);
        due.is("load(1): an int does not go to a byte", x.load(1), -16);
        due.is("the line is the inner one", x.cause(4), 0);
        x.becomes(0, 2, 5, 0);
        x.without(0, 1);
        due.is("load(1)", x.load(1), 1);
        long[][] told = {{-1, 6}, {0, 7}};
        for (int o = 0; o < 2; o++) {
            for (int p = 0; p < 2; p++) due.is("told(" + o + ", " + p + ")", x.told(o, p), told[o][p]);
        }
    }

    /** An earlier keep() leaves nothing behind that a later one would count. */
    private static void keepCountsAnew() {
        FamilyFields x = withTree();
        make(x, 0, -1, -1, 0);
        for (int i = 1; i < 65; i++) make(x, 0, i - 1, -1, i);
        due.is("keep(64): no room", x.keep(64), FULL);
        x.build();
        make(x, 0, -1, -1, 0);
        for (int i = 1; i < 65; i++) make(x, 0, i == 1 ? NONE : i - 1, -1, i);
        due.is("keep(64): all but the first", x.keep(64), 63);
    }

    private static void linesTell() {
        FamilyFields x = new FamilyFields();
        x.record();
        x.record();
        x.part(1, 'a', 4, 0, 0);
        x.build();
        x.make(1);
        x.keep(0);
        int[] told = {1, 1, 1, NONE};
        for (int what = 0; what < 4; what++) due.is("line(0, " + what + ")", x.line(0, what), told[what]);
        due.is("line(0, 4)", x.line(0, 4), BAD);
        due.is("line(0, -1)", x.line(0, -1), BAD);
        due.is("line(1, 0)", x.line(1, 0), BAD);
        due.is("line(-1, 0)", x.line(-1, 0), BAD);
        x.build();
        x.without(1, 0);
        due.is("line(0, 2) stays", x.line(0, 2), 1);
        due.is("line(0, 1) stays", x.line(0, 1), 1);
    }

    private static FamilyFields withWords() {
        FamilyFields x = withConstants();
        x.record();
        x.part(1, 'p', 5, 0, 0);
        x.part(1, 'q', 8, 1, 0);
        make(x, 0, 0, 6);
        make(x, 0, -1, 0);
        make(x, 1, 'a', 1);
        make(x, 0, 2, 3);
        for (int o = 0; o < 4; o++) x.keep(o);
        return x;
    }

    private static void words() {
        FamilyFields x = withWords();
        due.is("word(q, b, -1)", x.word('q', 'b', -1), 3);
        due.is("word(q, b, 0)", x.word('q', 'b', 0), 0);
        due.is("word(q, b, 1): of any enumeration", x.word('q', 'b', 1), 2);
        due.is("word(q, b, 2)", x.word('q', 'b', 2), 3);
        due.is("word(q, b, 3)", x.word('q', 'b', 3), NONE);
        due.is("word(q, b, -2)", x.word('q', 'b', -2), NONE);
        due.is("word(q, b, least)", x.word('q', 'b', Integer.MIN_VALUE), NONE);
        due.is("word(p, a, -1): a long is no word", x.word('p', 'a', -1), 1);
        due.is("word(p, a, 0)", x.word('p', 'a', 0), 0);
        due.is("word(p, 0, -1)", x.word('p', 0, -1), 0);
        due.is("word(p, -1, -1)", x.word('p', -1, -1), 0);
        due.is("word(0, a, -1)", x.word(0, 'a', -1), 0);
        due.is("word(x, a, 0)", x.word('x', 'a', 0), NONE);
        x.build();
        x.forget(0, 1);
        x.exchange(0, 0, 1);
        due.is("words are as kept", x.word('q', 'b', -1), 3);
        x.without(0, 1);
        due.is("also without the part", x.word('q', 'b', 2), 3);
    }

    private static void ranges() {
        FamilyFields x = withWords();
        due.is("range(q, 0, 1, 1, -1)", x.range('q', 0, 1, 1, -1), 2);
        due.is("range(q, 0, 1, 1, 1)", x.range('q', 0, 1, 1, 1), 3);
        due.is("range(q, 1, 0, 9, -1)", x.range('q', 1, 0, 9, -1), 1);
        due.is("range(q, 1, 0, 9, 0)", x.range('q', 1, 0, 9, 0), 2);
        due.is("range(q, 0, 2, 1, -1)", x.range('q', 0, 2, 1, -1), 0);
        due.is("range(q, 0, 0, 2, 0): a line once", x.range('q', 0, 0, 2, 1), 3);
        due.is("range(q, 2, 0, 9, -1): no enumeration", x.range('q', 2, 0, 9, -1), NONE);
        due.is("range(q, -1, 0, 9, -1): no enumeration", x.range('q', -1, 0, 9, -1), NONE);
        due.is("range(q, 0, 0, 9, -2)", x.range('q', 0, 0, 9, -2), NONE);
        due.is("range(q, 0, 0, 9, 2)", x.range('q', 0, 0, 9, 2), NONE);
        due.is("range(x, 0, 0, 9, -1): no such part", x.range('x', 0, 0, 9, -1), 0);
        due.is("range(x, 0, 0, 9, 0): no such part", x.range('x', 0, 0, 9, 0), NONE);
        due.is("range(p, 0, least, greatest, -1)", x.range('p', 0, Integer.MIN_VALUE, Integer.MAX_VALUE, -1), 2);
        x.build();
        x.forget(0, 0);
        due.is("range(q, 0, 0, 0, -1): by ordinals now", x.range('q', 0, 0, 0, -1), 2);
        due.is("range(q, 0, 1, 1, -1)", x.range('q', 0, 1, 1, -1), 1);
        due.is("range(p, 0, -9, 9, -1): one is unknown now", x.range('p', 0, -9, 9, -1), 1);
        due.is("range(p, 0, -9, 9, 0)", x.range('p', 0, -9, 9, 0), 3);
        due.is("nobody started by asking", x.started(0), NONE);
    }

    private static void counts() {
        FamilyFields x = withWords();
        x.build();
        x.family();
        x.forget(0, 1);
        x.row(4, 1);
        x.load(0);
        int[] told = {2, 2, 1, 1, 1, 4, 1, 1};
        for (int what = 0; what < 8; what++) due.is("count(" + what + ")", x.count(what), told[what]);
        due.is("count(-1)", x.count(-1), BAD);
        due.is("count(8)", x.count(8), BAD);
        x.build();
        due.is("count(7) is ever", x.count(7), 1);
    }

    private static void abouts() {
        FamilyFields x = withWords();
        x.build();
        x.check(0, 0, 1, 0, 0);
        x.family();
        x.permit(0, false, 0);
        x.permit(0, false, 1);
        int[] told = {3, 2, 1, 2, 2};
        for (int what = 0; what < 5; what++) due.is("about(0, " + what + ")", x.about(0, what), told[what]);
        int[] beyond = {2, 2, 2, 1, 1};
        for (int what = 0; what < 5; what++) {
            due.is("about(-1, " + what + ")", x.about(-1, what), BAD);
            due.is("about(" + beyond[what] + ", " + what + ")", x.about(beyond[what], what), BAD);
        }
        due.is("about(0, -1)", x.about(0, -1), BAD);
        due.is("about(0, 5)", x.about(0, 5), BAD);
    }
}
