/** Promises 1 to 14 at their edges; each test quotes the sentence to which it holds the class. */
public final class TypesEdgesTest {
    private static final int NONE = FamilyFields.NONE, BAD = FamilyFields.BAD;
    private static final int STATE = FamilyFields.STATE, FULL = FamilyFields.FULL;
    private static final int LEAST = Integer.MIN_VALUE, MOST = Integer.MAX_VALUE;
    private static final Due due = new Due();

    public static void main(String[] args) {
        newObjects();
        namesByTheirBytes();
        enumerations();
        constantsAreBad();
        constantsAreFull();
        exchanges();
        forgets();
        fails();
        families();
        membersAreBad();
        membersAreFull();
        leaves();
        records();
        partsAreBad();
        partsOf();
        partsAreFull();
        standards();
        without();
        becomesIsBad();
        becomesDropsStandardAndChecks();
        checksAreBad();
        checksAreFull();
        stateIsByObjectsAlone();
        stateLiesBetweenBadAndFull();
        builds();
        buildsAreFull();
        due.end();
    }

    private static void newObjects() {
        due.promise(1, "No TYPES, ROWS, OBJECTS, LINES; BUILD 0.");
        FamilyFields other = Worlds.full();
        other.row(4, 3);
        other.make(5);
        other.keep(0);
        other.build();
        FamilyFields x = new FamilyFields();
        for (int what = 0; what < 8; what++) due.is("count(" + what + ")", x.count(what), 0);
        for (int what = 0; what < 5; what++) due.is("about(0, " + what + ")", x.about(0, what), BAD);
        due.is("constant(0, ..)", x.constant(0, 'a', false), BAD);
        due.is("fails(0, ..)", x.fails(0, true), BAD);
        due.is("permit(0, ..)", x.permit(0, false, 0), BAD);
        due.is("part(0, ..)", x.part(0, 'a', 4, 0, 0), BAD);
        due.is("size(0)", x.size(0), BAD);
        due.is("make(0)", x.make(0), BAD);
        due.is("of(0)", x.of(0), BAD);
        due.is("told(0, 0)", x.told(0, 0), Long.MIN_VALUE);
        due.is("same(0, 0)", x.same(0, 0), BAD);
        due.is("named(0, a)", x.named(0, 'a'), BAD);
        due.is("work(0, 0, 0, 0)", x.work(0, 0, 0, 0), Long.MIN_VALUE);
        due.is("started(0)", x.started(0), NONE);
        due.is("keep(0)", x.keep(0), BAD);
        due.is("load(0)", x.load(0), BAD);
        due.is("line(0, 0)", x.line(0, 0), BAD);
        due.is("word(a, a, -1)", x.word('a', 'a', -1), 0);
        due.is("range(a, 0, 0, 0, -1)", x.range('a', 0, 0, 0, -1), NONE);
        due.is("cause(0)", x.cause(0), 0);
        due.is("build()", x.build(), 0);
    }

    private static void namesByTheirBytes() {
        due.term("A NAME is a long of 1 to 8 bytes a to z, the lowest first, 0 behind them.");
        nameIs(0, false);
        for (int length = 1; length <= 8; length++) {
            for (int at = 0; at < length; at++) {
                for (int letter = 0; letter < 256; letter++) {
                    long name = Due.name("mmmmmmmm".substring(0, length));
                    name = name & ~(0xffL << 8 * at) | (long) letter << 8 * at;
                    boolean isShorter = letter == 0 && at == length - 1 && length > 1;
                    nameIs(name, letter >= 'a' && letter <= 'z' || isShorter);
                }
            }
        }
    }

    private static void nameIs(long name, boolean is) {
        FamilyFields x = new FamilyFields();
        x.enumeration();
        x.record();
        String told = Long.toHexString(name);
        due.is("constant(0, " + told + ", false)", x.constant(0, name, false), is ? 0 : BAD);
        due.is("CONSTANTS with " + told, x.about(0, 0), is ? 1 : 0);
        due.is("part(0, " + told + ", 5, 0, 0)", x.part(0, name, 5, 0, 0), is ? 0 : BAD);
        due.is("PARTS with " + told, x.about(0, 1), is ? 1 : 0);
    }

    private static void enumerations() {
        due.promise(2, "An ENUMERATION: its number. STATE; FULL.");
        FamilyFields x = new FamilyFields();
        for (int e = 0; e < 4; e++) {
            due.is("about(" + e + ", 0) before", x.about(e, 0), BAD);
            due.is("enumeration()", x.enumeration(), e);
            due.is("about(" + e + ", 0)", x.about(e, 0), 0);
        }
        for (int i = 0; i < 3; i++) due.is("enumeration() beyond 3", x.enumeration(), FULL);
        due.is("count(0)", x.count(0), 4);
        x.build();
        due.is("enumeration() in the next BUILD", x.enumeration(), FULL);
        due.is("constant(3, ..) of the last", x.constant(3, 'a', false), 0);
    }

    private static void constantsAreBad() {
        due.promise(3, "BAD: the ENUMERATION, no NAME, one that is there; STATE; FULL.");
        FamilyFields x = Worlds.withConstants(1);
        x.enumeration();
        for (int e : new int[] {-1, 2, LEAST, MOST}) due.is("constant(" + e + ", b, ..)", x.constant(e, 'b', false), BAD);
        due.is("constant(0, a, ..)", x.constant(0, 'a', false), BAD);
        due.is("constant(0, a, true)", x.constant(0, 'a', true), BAD);
        due.is("a is not BODIED by that", x.work(0, 0, 0, 7), 7);
        due.is("constant(1, a, ..): not of this one", x.constant(1, 'a', false), 0);
        due.is("constant(0, aa, ..): another NAME", x.constant(0, Due.name("aa"), false), 1);
        x.forget(0, 0);
        due.is("constant(0, a, ..) when it has gone", x.constant(0, 'a', true), 1);
        due.is("a is BODIED now", x.work(0, 1, 0, 7), 23);
    }

    private static void constantsAreFull() {
        due.promise(3, "A CONSTANT behind the others: its ORDINAL.");
        FamilyFields x = new FamilyFields();
        for (int e = 0; e < 4; e++) {
            x.enumeration();
            for (int c = 0; c < 8; c++) due.is("constant(" + e + ", ..)", x.constant(e, 'h' - c, c % 2 == 0), c);
        }
        due.term("ENUMERATIONS 0 .. 3 have CONSTANTS, 8 at most, with NAMES (no two alike of one)");
        for (int e = 0; e < 4; e++) {
            due.is("a ninth of " + e, x.constant(e, 'i', false), FULL);
            due.is("a NAME that is there, BAD ahead of FULL", x.constant(e, 'h', false), BAD);
            due.is("no NAME, BAD ahead of FULL", x.constant(e, 0, false), BAD);
            due.is("about(" + e + ", 0)", x.about(e, 0), 8);
            due.is("named(" + e + ", i)", x.named(e, 'i'), -18);
            due.is("named(" + e + ", a)", x.named(e, 'a'), 7);
        }
        due.is("constant(4, ..), BAD ahead of FULL", x.constant(4, 'i', false), BAD);
        due.is("forget(0, 0)", x.forget(0, 0), 7);
        due.is("there is room again", x.constant(0, 'i', false), 7);
        due.is("and no more", x.constant(0, 'h', false), FULL);
    }

    private static void exchanges() {
        due.promise(4, "Two CONSTANTS change places: 1. BAD; STATE.");
        FamilyFields x = Worlds.withConstants(8);
        x.enumeration();
        due.is("exchange(1, 0, 0) of an empty one", x.exchange(1, 0, 0), BAD);
        for (int e : new int[] {-1, 2, LEAST, MOST}) due.is("exchange(" + e + ", 0, 1)", x.exchange(e, 0, 1), BAD);
        for (int c : new int[] {-1, 8, LEAST, MOST}) {
            due.is("exchange(0, 0, " + c + ")", x.exchange(0, 0, c), BAD);
            due.is("exchange(0, " + c + ", 0)", x.exchange(0, c, 0), BAD);
            due.is("exchange(0, " + c + ", " + c + ")", x.exchange(0, c, c), BAD);
        }
        constantsAre(x, "abcdefgh");
        due.is("exchange(0, 0, 7)", x.exchange(0, 0, 7), 1);
        constantsAre(x, "hbcdefga");
        due.is("exchange(0, 5, 2)", x.exchange(0, 5, 2), 1);
        constantsAre(x, "hbfdecga");
        due.is("exchange(0, 3, 3)", x.exchange(0, 3, 3), 1);
        constantsAre(x, "hbfdecga");
        x.constant(1, 'x', true);
        due.is("exchange(1, 0, 0) of one", x.exchange(1, 0, 0), 1);
        due.is("exchange(1, 0, 1) of one", x.exchange(1, 0, 1), BAD);
        due.is("x stays BODIED", x.work(1, 0, 0, 5), 14);
    }

    /** The constants of enumeration 0 are these, and b, d, f, h among them are bodied. */
    private static void constantsAre(FamilyFields x, String names) {
        due.is("about(0, 0)", x.about(0, 0), names.length());
        for (int c = 0; c < names.length(); c++) {
            char name = names.charAt(c);
            due.is(name + " of " + names, x.named(0, name), c);
            due.is("ONCE by " + name, x.work(0, c, 0, 10), (name - 'a') % 2 == 1 ? 3 * (10 + c) - 1 : 10 + c);
        }
        due.is("work(0, " + names.length() + ", ..)", x.work(0, names.length(), 0, 1), Long.MIN_VALUE);
    }

    private static void forgets() {
        due.promise(5, "A CONSTANT goes, those behind it have ORDINALS less by 1: how many there are. BAD; STATE.");
        FamilyFields x = Worlds.withConstants(8);
        x.enumeration();
        due.is("forget(1, 0) of an empty one", x.forget(1, 0), BAD);
        for (int e : new int[] {-1, 2, LEAST, MOST}) due.is("forget(" + e + ", 0)", x.forget(e, 0), BAD);
        for (int c : new int[] {-1, 8, LEAST, MOST}) due.is("forget(0, " + c + ")", x.forget(0, c), BAD);
        constantsAre(x, "abcdefgh");
        due.is("forget(0, 7), the last", x.forget(0, 7), 7);
        constantsAre(x, "abcdefg");
        due.is("h has gone", x.named(0, 'h'), -18);
        due.is("forget(0, 7) again", x.forget(0, 7), BAD);
        due.is("forget(0, 0), the first", x.forget(0, 0), 6);
        constantsAre(x, "bcdefg");
        due.is("forget(0, 2)", x.forget(0, 2), 5);
        constantsAre(x, "bcefg");
        for (int left = 4; left >= 0; left--) due.is("forget(0, 0)", x.forget(0, 0), left);
        constantsAre(x, "");
        due.is("forget(0, 0) of none", x.forget(0, 0), BAD);
        due.is("a CONSTANT comes as the first", x.constant(0, 'd', true), 0);
    }

    private static void fails() {
        due.promise(6, "Whether the START of an ENUMERATION fails: whether it did before (1, 0). BAD; STATE.");
        FamilyFields x = Worlds.withConstants(1);
        for (int e = 1; e < 4; e++) x.enumeration();
        for (int e : new int[] {-1, 4, LEAST, MOST}) {
            due.is("fails(" + e + ", true)", x.fails(e, true), BAD);
            due.is("fails(" + e + ", false)", x.fails(e, false), BAD);
        }
        for (int e = 0; e < 4; e++) {
            due.is("fails(" + e + ", false) at first", x.fails(e, false), 0);
            due.is("fails(" + e + ", true)", x.fails(e, true), 0);
            due.is("fails(" + e + ", true) again", x.fails(e, true), 1);
            due.is("fails(" + e + ", false)", x.fails(e, false), 1);
        }
        x.fails(0, true);
        due.is("the one fails", x.named(0, 'a'), -19);
        due.is("another does not", x.named(1, 'a'), -18);
        due.is("asked behind a failed START", x.fails(0, false), 1);
        due.is("it is NOT all the same", x.named(0, 'a'), -20);
        x.fails(0, true);
        x.build();
        due.is("it is told to fail in the next BUILD too", x.fails(0, true), 1);
        due.is("and fails", x.named(0, 'a'), -19);
        x.build();
        x.fails(0, false);
        due.is("and does not", x.named(0, 'a'), 0);
        x.fails(0, true);
        due.is("what has STARTED does not fail", x.named(0, 'a'), 0);
    }

    private static void families() {
        due.promise(7, "A FAMILY: its number. STATE; FULL.");
        FamilyFields x = new FamilyFields();
        for (int f = 0; f < 3; f++) {
            due.is("about(" + f + ", 3) before", x.about(f, 3), BAD);
            due.is("family()", x.family(), f);
            due.is("about(" + f + ", 3)", x.about(f, 3), 0);
            due.is("about(" + f + ", 4)", x.about(f, 4), 0);
        }
        for (int i = 0; i < 3; i++) due.is("family() beyond 2", x.family(), FULL);
        due.is("count(2)", x.count(2), 3);
    }

    private static void membersAreBad() {
        due.promise(8, "BAD: no FAMILY, no such RECORD, no FAMILY of a lesser number, it is a MEMBER already; STATE; FULL.");
        FamilyFields x = new FamilyFields();
        due.is("permit(0, false, 0) of none", x.permit(0, false, 0), BAD);
        x.family();
        due.is("permit(0, false, 0) without a RECORD", x.permit(0, false, 0), BAD);
        due.is("permit(0, true, 0) of itself", x.permit(0, true, 0), BAD);
        for (int r = 0; r < 3; r++) x.record();
        x.family();
        for (int f : new int[] {-1, 2, LEAST, MOST}) {
            due.is("permit(" + f + ", false, 0)", x.permit(f, false, 0), BAD);
            due.is("permit(" + f + ", true, 0)", x.permit(f, true, 0), BAD);
        }
        for (int r : new int[] {-1, 3, LEAST, MOST}) due.is("permit(1, false, " + r + ")", x.permit(1, false, r), BAD);
        for (int f : new int[] {-1, 1, 2, LEAST, MOST}) due.is("permit(1, true, " + f + ")", x.permit(1, true, f), BAD);
        for (int f : new int[] {0, 1}) due.is("permit(0, true, " + f + ")", x.permit(0, true, f), BAD);
        due.is("none came by that", x.about(0, 3) + x.about(1, 3), 0);
        due.is("permit(1, false, 2), the last RECORD", x.permit(1, false, 2), 1);
        due.is("permit(1, false, 2) again", x.permit(1, false, 2), BAD);
        due.is("permit(1, true, 0)", x.permit(1, true, 0), 2);
        due.is("permit(1, true, 0) again", x.permit(1, true, 0), BAD);
        due.is("permit(1, false, 0), no FAMILY but a RECORD", x.permit(1, false, 0), 3);
        due.is("permit(0, false, 2), a MEMBER of another one", x.permit(0, false, 2), 1);
        x.family();
        due.is("permit(2, true, 2)", x.permit(2, true, 2), BAD);
        due.is("permit(2, true, 1)", x.permit(2, true, 1), 1);
        due.is("permit(2, false, 2), a LEAF but no MEMBER", x.permit(2, false, 2), 2);
    }

    private static void membersAreFull() {
        due.promise(8, "A MEMBER more, a RECORD, or (isFamily) a FAMILY: how many.");
        FamilyFields x = new FamilyFields();
        for (int f = 0; f < 3; f++) x.family();
        for (int r = 0; r < 6; r++) x.record();
        for (int r = 0; r < 4; r++) due.is("permit(0, false, " + r + ")", x.permit(0, false, r), r + 1);
        due.is("permit(2, true, 0)", x.permit(2, true, 0), 1);
        due.is("permit(2, true, 1)", x.permit(2, true, 1), 2);
        due.is("permit(2, false, 0)", x.permit(2, false, 0), 3);
        due.is("permit(2, false, 5)", x.permit(2, false, 5), 4);
        due.term("FAMILIES 0 .. 2 have MEMBERS, 4 at most: RECORDS and FAMILIES of lesser numbers.");
        due.is("permit(0, false, 4), a fifth", x.permit(0, false, 4), FULL);
        due.is("permit(2, false, 4), a fifth", x.permit(2, false, 4), FULL);
        due.is("permit(2, true, 0), BAD ahead of FULL", x.permit(2, true, 0), BAD);
        due.is("permit(2, true, 2), BAD ahead of FULL", x.permit(2, true, 2), BAD);
        due.is("permit(0, false, 6), BAD ahead of FULL", x.permit(0, false, 6), BAD);
        due.is("about(0, 3)", x.about(0, 3), 4);
        due.is("about(2, 3)", x.about(2, 3), 4);
        due.is("about(2, 4)", x.about(2, 4), 5);
    }

    private static void leaves() {
        due.term("THE LEAVES of a FAMILY are the RECORDS come to through its MEMBERS in order (those of a FAMILY in its place),"
            + " each once, where it comes first; the TAG of a RECORD is how many are before it.");
        FamilyFields x = new FamilyFields();
        for (int f = 0; f < 3; f++) x.family();
        for (int r = 0; r < 6; r++) x.record();
        x.permit(2, true, 1);
        due.is("LEAVES of an empty one", x.about(2, 4), 0);
        x.permit(2, false, 3);
        x.permit(1, false, 3);
        due.is("LEAVES, each once", x.about(2, 4), 1);
        x.permit(1, true, 0);
        x.permit(0, false, 5);
        x.permit(0, false, 4);
        due.is("LEAVES that came two FAMILIES down", x.about(2, 4), 3);
        x.permit(1, false, 0);
        x.permit(0, false, 3);
        x.permit(1, false, 1);
        x.permit(2, false, 2);
        x.permit(2, true, 0);
        int[] counts = {3, 5, 6};
        for (int f = 0; f < 3; f++) due.is("about(" + f + ", 4)", x.about(f, 4), counts[f]);
        for (int r = 0; r < 6; r++) x.make(r);
        int[][] tags = {{NONE, NONE, NONE, 2, 1, 0}, {3, 4, NONE, 0, 2, 1}, {3, 4, 5, 0, 2, 1}};
        for (int f = 0; f < 3; f++) {
            for (int r = 0; r < 6; r++) due.is("tag of RECORD " + r + " in " + f, x.tag(r, f), tags[f][r]);
        }
        leavesThatComeEarlierLater();
    }

    /** A family that stands ahead in another gets its members last. */
    private static void leavesThatComeEarlierLater() {
        FamilyFields x = new FamilyFields();
        for (int f = 0; f < 3; f++) x.family();
        for (int r = 0; r < 6; r++) x.record();
        x.permit(2, true, 1);
        x.permit(1, true, 0);
        x.permit(2, false, 0);
        x.permit(2, false, 1);
        x.permit(1, false, 2);
        x.permit(0, false, 1);
        x.permit(0, false, 3);
        for (int r = 0; r < 6; r++) x.make(r);
        int[][] tags = {{NONE, 0, NONE, 1}, {NONE, 0, 2, 1}, {3, 0, 2, 1}};
        for (int f = 0; f < 3; f++) {
            for (int r = 0; r < 4; r++) due.is("tag of RECORD " + r + " in " + f, x.tag(r, f), tags[f][r]);
        }
    }

    private static void records() {
        due.promise(9, "A RECORD: its number. STATE; FULL.");
        FamilyFields x = new FamilyFields();
        for (int r = 0; r < 6; r++) {
            due.is("about(" + r + ", 1) before", x.about(r, 1), BAD);
            due.is("record()", x.record(), r);
            due.is("about(" + r + ", 1)", x.about(r, 1), 0);
            due.is("about(" + r + ", 2)", x.about(r, 2), 0);
        }
        for (int i = 0; i < 3; i++) due.is("record() beyond 5", x.record(), FULL);
        due.is("count(1)", x.count(1), 6);
        due.is("make(5), of no PARTS", x.make(5), 0);
    }

    private static void partsAreBad() {
        due.promise(10, "BAD: the RECORD, no NAME, one that is there, SORT, of; STATE; FULL.");
        FamilyFields x = new FamilyFields();
        due.is("part(0, ..) of none", x.part(0, 'a', 4, 0, 0), BAD);
        x.record();
        x.record();
        for (int r : new int[] {-1, 2, LEAST, MOST}) due.is("part(" + r + ", ..)", x.part(r, 'a', 4, 0, 0), BAD);
        for (int s : new int[] {-1, 12, LEAST, MOST}) due.is("part of SORT " + s, x.part(0, 'a', s, 0, 0), BAD);
        due.is("PARTS then", x.about(0, 1), 0);
        due.is("part(0, a, ..)", x.part(0, 'a', 4, 0, 0), 0);
        due.is("part(0, a, ..) again", x.part(0, 'a', 4, 0, 0), BAD);
        due.is("part(0, a, ..) of another SORT", x.part(0, 'a', 5, 0, 0), BAD);
        due.is("part(1, a, ..): not of this one", x.part(1, 'a', 4, 0, 0), 0);
        x.without(0, 0);
        due.is("part(0, a, ..) when it has gone", x.part(0, 'a', 5, 0, 0), 0);
    }

    private static void partsOf() {
        due.promise(10, "of: the ENUMERATION (8, 9), LANE (10), FAMILY (11), else of no matter");
        for (int sort = 0; sort < 12; sort++) {
            for (int have = 0; have < 3; have++) {
                int lasts = sort == 10 ? 7 : sort < 8 ? MOST : have - 1;
                for (int of : new int[] {LEAST, -1, 0, 1, 2, 3, 4, 7, 8, MOST}) {
                    FamilyFields x = new FamilyFields();
                    for (int i = 0; i < have; i++) x.enumeration();
                    for (int i = 0; i < have; i++) x.family();
                    x.record();
                    boolean fits = sort < 8 || of >= 0 && of <= lasts;
                    String call = "part of SORT " + sort + ", of " + of + " with " + have + " types";
                    due.is(call, x.part(0, 'a', sort, of, 0), fits ? 0 : BAD);
                    due.is("PARTS", x.about(0, 1), fits ? 1 : 0);
                }
            }
        }
    }

    private static void partsAreFull() {
        due.promise(10, "A PART more: its number.");
        FamilyFields x = new FamilyFields();
        for (int r = 0; r < 6; r++) {
            x.record();
            for (int p = 0; p < 6; p++) due.is("part(" + r + ", ..)", x.part(r, 'f' - p, p, 0, 0), p);
        }
        due.term("RECORDS 0 .. 5 have PARTS, 6 at most, with NAMES (no two alike of one), told by numbers from 0 on,"
            + " and CHECKS, 4 at most.");
        for (int r = 0; r < 6; r++) {
            due.is("a seventh of " + r, x.part(r, 'g', 4, 0, 0), FULL);
            due.is("a NAME that is there, BAD ahead of FULL", x.part(r, 'f', 4, 0, 0), BAD);
            due.is("no NAME, BAD ahead of FULL", x.part(r, 0, 4, 0, 0), BAD);
            due.is("no SORT, BAD ahead of FULL", x.part(r, 'g', 12, 0, 0), BAD);
            due.is("no of, BAD ahead of FULL", x.part(r, 'g', 8, 0, 0), BAD);
            due.is("about(" + r + ", 1)", x.about(r, 1), 6);
        }
        due.is("part(6, ..), BAD ahead of FULL", x.part(6, 'g', 4, 0, 0), BAD);
        x.without(0, 0);
        due.is("there is room again", x.part(0, 'g', 4, 0, 0), 5);
        due.is("and no more", x.part(0, 'f', 4, 0, 0), FULL);
    }

    private static void standards() {
        due.promise(10, "standard: BITS (of others than 0 to 7 of no matter).");
        long[][] given = {
            {0, 0, 0}, {0, 1, 1}, {0, 2, 1}, {0, -1, 1}, {0, 1L << 63, 1}, {0, 256, 1},
            {1, 127, 127}, {1, 128, -128}, {1, -128, -128}, {1, -129, 127}, {1, 256, 0},
            {2, 32767, 32767}, {2, 32768, -32768}, {2, -32768, -32768}, {2, -32769, 32767}, {2, 65536, 0},
            {3, 65535, 65535}, {3, 65536, 0}, {3, -1, 65535},
            {4, MOST, MOST}, {4, MOST + 1L, LEAST}, {4, LEAST, LEAST}, {4, LEAST - 1L, MOST}, {4, 1L << 32, 0},
            {5, Long.MAX_VALUE, Long.MAX_VALUE}, {5, Long.MIN_VALUE, Long.MIN_VALUE},
            {6, 0x7f800000L, 0x7f800000}, {6, 0x7f800001L, 0x7fc00000}, {6, 0xff800000L, (int) 0xff800000L},
            {6, 0xff800001L, 0x7fc00000}, {6, 0x80000000L, LEAST}, {6, 1L << 32, 0}, {6, -1, 0x7fc00000},
            {7, 0x7ff0000000000000L, 0x7ff0000000000000L}, {7, 0x7ff0000000000001L, 0x7ff8000000000000L},
            {7, 0xfff0000000000000L, 0xfff0000000000000L}, {7, 0xfff0000000000001L, 0x7ff8000000000000L},
            {7, Long.MIN_VALUE, Long.MIN_VALUE}, {7, -1, 0x7ff8000000000000L},
            {8, 0, -1}, {8, 1, -1}, {8, Long.MIN_VALUE, -1}, {9, 1, 0}, {9, -1, 0}, {9, Long.MAX_VALUE, 0},
            {10, 0, -1}, {10, 99, -1}, {11, 0, -1}, {11, -99, -1},
        };
        for (long[] g : given) {
            if (g[0] == 8) {
                due.term("STANDARD of a PART of SORT 0 to 7: what it is where nothing was kept of it; of others it is none"
                    + " (a SET of none).");
            }
            FamilyFields x = Worlds.withConstants(3);
            x.family();
            x.record();
            x.permit(0, false, 0);
            x.make(0);
            x.keep(0);
            x.build();
            x.row(0, 1);
            due.is("part of SORT " + g[0], x.part(0, 'a', (int) g[0], 0, g[1]), 0);
            due.is("load(0)", x.load(0), 0);
            due.is("STANDARD " + g[1] + " of SORT " + g[0], x.told(0, 0), g[2]);
        }
    }

    private static void without() {
        due.promise(11, "A PART goes, with its CHECKS; those behind it have numbers less by 1: how many there are. BAD; STATE.");
        FamilyFields x = new FamilyFields();
        x.record();
        x.record();
        due.is("without(0, 0) of none", x.without(0, 0), BAD);
        for (int p = 0; p < 6; p++) x.part(0, 'a' + p, 5, 0, 0);
        for (int p : new int[] {0, 5, 2, 5}) x.check(0, p, 0, 10 * p, 10 * p);
        for (int r : new int[] {-1, 2, LEAST, MOST}) due.is("without(" + r + ", 0)", x.without(r, 0), BAD);
        for (int p : new int[] {-1, 6, LEAST, MOST}) due.is("without(0, " + p + ")", x.without(0, p), BAD);
        due.is("without(1, 0)", x.without(1, 0), BAD);
        due.is("none went by that", x.about(0, 1) * 10 + x.about(0, 2), 64);
        for (int p = 0; p < 6; p++) x.give(p, 10 * p);
        due.is("without(0, 2)", x.without(0, 2), 5);
        due.is("its CHECK went", x.about(0, 2), 3);
        due.is("the CHECKS of f have its number now", x.make(0), -11);
        due.is("the PART", x.cause(2), 4);
        due.is("the CHECK", x.cause(3), 1);
        due.is("without(0, 4), the last", x.without(0, 4), 4);
        due.is("both its CHECKS went", x.about(0, 2), 1);
        due.is("without(0, 4) again", x.without(0, 4), BAD);
        due.is("without(0, 0), the first", x.without(0, 0), 3);
        due.is("no CHECK is left", x.about(0, 2), 0);
        due.is("d is there", x.part(0, 'd', 5, 0, 0), BAD);
        for (int left = 2; left >= 0; left--) due.is("without(0, 0)", x.without(0, 0), left);
        due.is("without(0, 0) of none", x.without(0, 0), BAD);
        due.is("a PART comes as the first", x.part(0, 'c', 5, 0, 0), 0);
    }

    private static void becomesIsBad() {
        due.promise(12, "BAD: also of; STATE.");
        FamilyFields x = new FamilyFields();
        x.record();
        x.record();
        due.is("becomes(0, 0, ..) of none", x.becomes(0, 0, 5, 0), BAD);
        x.part(0, 'a', 4, 0, 0);
        x.check(0, 0, 2, 0, 0);
        for (int r : new int[] {-1, 1, 2, LEAST, MOST}) due.is("becomes(" + r + ", 0, ..)", x.becomes(r, 0, 5, 0), BAD);
        for (int p : new int[] {-1, 1, LEAST, MOST}) due.is("becomes(0, " + p + ", ..)", x.becomes(0, p, 5, 0), BAD);
        for (int s : new int[] {-1, 12, LEAST, MOST}) due.is("becomes(0, 0, " + s + ", 0)", x.becomes(0, 0, s, 0), BAD);
        for (int sort : new int[] {8, 9, 11}) due.is("of no type", x.becomes(0, 0, sort, 0), BAD);
        x.enumeration();
        x.family();
        for (int sort = 8; sort < 12; sort++) {
            int beyond = sort == 10 ? 8 : 1;
            for (int of : new int[] {-1, beyond, LEAST, MOST}) {
                due.is("becomes(0, 0, " + sort + ", " + of + ")", x.becomes(0, 0, sort, of), BAD);
            }
        }
        due.is("its CHECK is still there", x.make(0), -13);
        due.is("its SORT is still", x.becomes(0, 0, 0, MOST), 4);
        int before = 0;
        for (int sort = 1; sort < 12; sort++) {
            due.is("becomes(0, 0, " + sort + ", 0)", x.becomes(0, 0, sort, sort == 10 ? 7 : 0), before);
            before = sort;
        }
        due.is("becomes(0, 0, 7, least): of is of no matter", x.becomes(0, 0, 7, LEAST), 11);
    }

    private static void becomesDropsStandardAndChecks() {
        due.promise(12, "The SORT of a PART becomes another one (or of another of), its STANDARD of BITS 0; its CHECKS go:"
            + " the SORT before.");
        for (int sort = 0; sort < 8; sort++) {
            FamilyFields x = new FamilyFields();
            x.record();
            x.make(0);
            x.keep(0);
            x.build();
            x.part(0, 'a', 5, 0, 77);
            x.part(0, 'b', 5, 0, 78);
            x.check(0, 1, 0, 0, 1000);
            x.check(0, 0, 0, 1, 2);
            x.check(0, 1, 0, 78, 78);
            x.check(0, 0, 2, 0, 0);
            due.is("becomes(0, 0, " + sort + ", 0)", x.becomes(0, 0, sort, 0), 5);
            due.is("its CHECKS went, the other's are there", x.about(0, 2), 2);
            due.is("load(0)", x.load(0), 0);
            due.is("its STANDARD", x.told(0, 0), 0);
            due.is("the other's STANDARD", x.told(0, 1), 78);
        }
        FamilyFields x = Worlds.withPart(8, 0);
        x.enumeration();
        x.constant(1, 'a', false);
        x.check(0, 0, 6, 0, 0);
        due.is("becomes(0, 0, 8, 1): another of", x.becomes(0, 0, 8, 1), 8);
        due.is("the CHECK went", x.about(0, 2), 0);
        due.is("ORDINAL 1 is none of it", Worlds.make(x, 0, 1), BAD);
        due.is("ORDINAL 0 is", Worlds.make(x, 0, 0), 0);
        due.is("that one STARTED", x.started(1), 11);
    }

    private static void checksAreBad() {
        due.promise(13, "BAD: RECORD, PART, check (0 .. 6), or it is none of the PART's SORT (a, b are not asked); STATE; FULL.");
        String[] sorts = {"0 1 2 3 4 5 6 7", "8 10 11", "1 2 3 4 5", "1 2 3 4", "10", "11", "8"};
        for (int sort = 0; sort < 12; sort++) {
            for (int kind = -2; kind < 10; kind++) {
                FamilyFields x = Worlds.withPart(sort, 0);
                boolean fits = kind >= 0 && kind < 7 && (" " + sorts[kind] + " ").contains(" " + sort + " ");
                due.is("check " + kind + " of SORT " + sort, x.check(0, 0, kind, 1, 0), fits ? 1 : BAD);
                due.is("CHECKS", x.about(0, 2), fits ? 1 : 0);
            }
        }
        FamilyFields x = Worlds.withPart(4, 0);
        x.record();
        due.is("check(1, 0, ..) of a RECORD without PARTS", x.check(1, 0, 0, 0, 0), BAD);
        for (int i : new int[] {-1, 1, 2, LEAST, MOST}) due.is("check(" + i + ", 0, ..)", x.check(i, 0, 0, 0, 0), BAD);
        for (int i : new int[] {-1, 1, LEAST, MOST}) due.is("check(0, " + i + ", ..)", x.check(0, i, 0, 0, 0), BAD);
        for (int i : new int[] {-1, 7, LEAST, MOST}) due.is("check(0, 0, " + i + ", ..)", x.check(0, 0, i, 0, 0), BAD);
        due.is("a above b", x.check(0, 0, 0, Long.MAX_VALUE, Long.MIN_VALUE), 1);
        x = Worlds.withPart(10, 0);
        due.is("an ITEM that no ROW has", x.check(0, 0, 4, Long.MIN_VALUE, 0), 1);
        x = Worlds.withPart(11, 0);
        due.is("a RECORD that is none", x.check(0, 0, 5, -1, 0), 1);
    }

    private static void checksAreFull() {
        due.promise(13, "A CHECK more: how many.");
        FamilyFields x = new FamilyFields();
        x.record();
        x.record();
        for (int p = 0; p < 3; p++) x.part(0, 'a' + p, 4, 0, 0);
        x.part(1, 'a', 4, 0, 0);
        for (int c = 0; c < 4; c++) due.is("check(0, ..)", x.check(0, c % 3, 0, 0, 9), c + 1);
        due.term("RECORDS 0 .. 5 have PARTS, 6 at most, with NAMES (no two alike of one), told by numbers from 0 on,"
            + " and CHECKS, 4 at most.");
        for (int p = 0; p < 3; p++) due.is("a fifth, of PART " + p, x.check(0, p, 2, 0, 0), FULL);
        due.is("PART 3, BAD ahead of FULL", x.check(0, 3, 2, 0, 0), BAD);
        due.is("none of its SORT, BAD ahead of FULL", x.check(0, 0, 1, 0, 0), BAD);
        due.is("check 7, BAD ahead of FULL", x.check(0, 0, 7, 0, 0), BAD);
        due.is("of another RECORD", x.check(1, 0, 2, 0, 0), 1);
        due.is("about(0, 2)", x.about(0, 2), 4);
        due.is("a fifth does not count", Worlds.make(x, 0, 0, 0, 0), 0);
        x.build();
        x.becomes(0, 0, 5, 0);
        due.is("about(0, 2) without those of a", x.about(0, 2), 2);
        due.is("there is room again", x.check(0, 0, 0, 0, 9), 3);
        due.is("there is room again", x.check(0, 0, 0, 0, 9), 4);
        due.is("and no more", x.check(0, 0, 0, 0, 9), FULL);
        x.without(0, 1);
        due.is("there is room without a PART", x.check(0, 0, 0, 0, 9), 4);
        due.is("and no more", x.check(0, 0, 0, 0, 9), FULL);
    }

    /** Each call on types, with numbers that are fine in the small world. */
    private static final String[] CALLS = {"enumeration", "constant", "exchange", "forget", "fails", "family", "permit",
        "record", "part", "without", "becomes", "check"};
    private static final int[] PROMISES = {2, 3, 4, 5, 6, 7, 8, 9, 10, 11, 12, 13};

    private static int call(FamilyFields x, int c) {
        switch (c) {
            case 0: return x.enumeration();
            case 1: return x.constant(0, 'z', false);
            case 2: return x.exchange(0, 0, 1);
            case 3: return x.forget(0, 1);
            case 4: return x.fails(0, true);
            case 5: return x.family();
            case 6: return x.permit(0, false, 1);
            case 7: return x.record();
            case 8: return x.part(0, 'z', 4, 0, 0);
            case 9: return x.without(0, 0);
            case 10: return x.becomes(0, 0, 5, 0);
            default: return x.check(0, 0, 0, 0, 0);
        }
    }

    private static void stateIsByObjectsAlone() {
        int[] answers = {1, 2, 1, 1, 0, 1, 2, 2, 1, 0, 4, 2};
        for (int c = 0; c < CALLS.length; c++) {
            due.promise(PROMISES[c], "STATE");
            due.is(CALLS[c] + " at first", call(Worlds.small(), c), answers[c]);

            FamilyFields x = Worlds.small();
            x.row(4, 1);
            x.named(0, 'a');
            x.give(0, 0);
            due.is("a make() that fails", x.make(0), -13);
            due.is(CALLS[c] + " with ROWS and who STARTED, without OBJECTS", call(x, c), answers[c]);

            x = Worlds.small();
            x.make(1);
            due.is(CALLS[c] + " with an OBJECT", call(x, c), STATE);
            due.is(CALLS[c] + " with an OBJECT, again", call(x, c), STATE);
            x.keep(0);
            x.build();
            due.is(CALLS[c] + " with a LINE, without OBJECTS", call(x, c), answers[c]);

            x = Worlds.small();
            x.make(1);
            x.keep(0);
            x.build();
            due.is("load(0)", x.load(0), 0);
            due.is(CALLS[c] + " with an OBJECT that was LOADED", call(x, c), STATE);
        }
    }

    private static void stateLiesBetweenBadAndFull() {
        due.term("Calls answer, the first of these that fits: BAD -1 (a number is not as told, there is no such thing),"
            + " STATE -2 (there are OBJECTS), FULL -3; -10 less a code.");
        FamilyFields x = Worlds.full();
        due.is("make(5) of six longs", Worlds.make(x, 5, 0, 0, 0, 0, 0, 0), 0);
        due.is("enumeration(): STATE ahead of FULL", x.enumeration(), STATE);
        due.is("constant: STATE ahead of FULL", x.constant(0, 'z', false), STATE);
        due.is("family(): STATE ahead of FULL", x.family(), STATE);
        due.is("permit: STATE ahead of FULL", x.permit(0, false, 5), STATE);
        due.is("record(): STATE ahead of FULL", x.record(), STATE);
        due.is("part: STATE ahead of FULL", x.part(0, 'z', 4, 0, 0), STATE);
        due.is("check: STATE ahead of FULL", x.check(0, 0, 0, 0, 0), STATE);
        due.is("constant(4, ..): BAD ahead of STATE", x.constant(4, 'z', false), BAD);
        due.is("constant(0, 0, ..): BAD ahead of STATE", x.constant(0, 0, false), BAD);
        due.is("constant(0, a, ..): BAD ahead of STATE", x.constant(0, 'a', false), BAD);
        due.is("exchange(4, ..): BAD ahead of STATE", x.exchange(4, 0, 1), BAD);
        due.is("exchange(0, 8, 0): BAD ahead of STATE", x.exchange(0, 8, 0), BAD);
        due.is("exchange(0, 0, 8): BAD ahead of STATE", x.exchange(0, 0, 8), BAD);
        due.is("forget(4, 0): BAD ahead of STATE", x.forget(4, 0), BAD);
        due.is("forget(0, 8): BAD ahead of STATE", x.forget(0, 8), BAD);
        due.is("fails(4, ..): BAD ahead of STATE", x.fails(4, true), BAD);
        due.is("permit(3, ..): BAD ahead of STATE", x.permit(3, false, 0), BAD);
        due.is("permit(0, false, 6): BAD ahead of STATE", x.permit(0, false, 6), BAD);
        due.is("permit(0, true, 0): BAD ahead of STATE", x.permit(0, true, 0), BAD);
        due.is("permit(0, false, 1): BAD ahead of STATE", x.permit(0, false, 1), BAD);
        due.is("permit(1, true, 0): BAD ahead of STATE", x.permit(1, true, 0), BAD);
        due.is("part(6, ..): BAD ahead of STATE", x.part(6, 'z', 4, 0, 0), BAD);
        due.is("part(0, 0, ..): BAD ahead of STATE", x.part(0, 0, 4, 0, 0), BAD);
        due.is("part(0, a, ..): BAD ahead of STATE", x.part(0, 'a', 4, 0, 0), BAD);
        due.is("part(0, z, 12, ..): BAD ahead of STATE", x.part(0, 'z', 12, 0, 0), BAD);
        due.is("part(0, z, 10, 8, ..): BAD ahead of STATE", x.part(0, 'z', 10, 8, 0), BAD);
        due.is("without(6, 0): BAD ahead of STATE", x.without(6, 0), BAD);
        due.is("without(0, 6): BAD ahead of STATE", x.without(0, 6), BAD);
        due.is("becomes(6, ..): BAD ahead of STATE", x.becomes(6, 0, 4, 0), BAD);
        due.is("becomes(0, 6, ..): BAD ahead of STATE", x.becomes(0, 6, 4, 0), BAD);
        due.is("becomes(0, 0, 12, 0): BAD ahead of STATE", x.becomes(0, 0, 12, 0), BAD);
        due.is("becomes(0, 0, 8, 4): BAD ahead of STATE", x.becomes(0, 0, 8, 4), BAD);
        due.is("check(6, ..): BAD ahead of STATE", x.check(6, 0, 0, 0, 0), BAD);
        due.is("check(0, 6, ..): BAD ahead of STATE", x.check(0, 6, 0, 0, 0), BAD);
        due.is("check(0, 0, 7, ..): BAD ahead of STATE", x.check(0, 0, 7, 0, 0), BAD);
        due.is("check(0, 0, 1, ..): BAD ahead of STATE", x.check(0, 0, 1, 0, 0), BAD);
    }

    private static void builds() {
        due.promise(14, "BUILD: how many OBJECTS there were.");
        due.is("build() of none", new FamilyFields().build(), 0);
        FamilyFields x = Worlds.small();
        for (int i = 0; i < 64; i++) x.make(0);
        for (int i = 0; i < 64; i++) x.keep(i);
        due.is("build()", x.build(), 64);
        due.is("build() again", x.build(), 0);
        for (int i = 0; i < 100; i++) x.make(0);
        for (int l = 0; l < 64; l++) due.is("load(" + l + ")", x.load(l), 100 + l);
        due.is("build() of all there can be", x.build(), 164);
        due.is("count(6)", x.count(6), 3);

        due.term("BUILD: OBJECTS and ROWS go, nothing has STARTED; LINES stay. BUILDS are numbered from 0 on.");
        x = Worlds.small();
        x.row(4, 2);
        x.make(0);
        x.keep(0);
        x.named(0, 'a');
        due.is("build()", x.build(), 1);
        due.is("OBJECTS", x.count(4), 0);
        due.is("of(0)", x.of(0), BAD);
        due.is("told(0, 0)", x.told(0, 0), Long.MIN_VALUE);
        due.is("ROWS", x.count(3), 0);
        due.is("size(0)", x.size(0), BAD);
        due.is("item(0, 0)", x.item(0, 0), 0);
        due.is("started(0)", x.started(0), NONE);
        due.is("LINES", x.count(5), 1);
        due.is("line(0, 1)", x.line(0, 1), 0);
        due.is("types stay", x.count(0) * 100 + x.count(1) * 10 + x.count(2), 121);
        due.is("the BUILD", x.count(6), 1);
    }

    private static void buildsAreFull() {
        due.promise(14, "FULL: it was BUILD 1000.");
        FamilyFields x = Worlds.small();
        for (int b = 0; b < 999; b++) due.is("build() in BUILD " + b, x.build(), 0);
        x.make(0);
        x.keep(0);
        due.is("build() in BUILD 999", x.build(), 1);
        due.is("count(6)", x.count(6), 1000);
        x.row(4, 1);
        x.make(0);
        for (int i = 0; i < 3; i++) due.is("build() in BUILD 1000", x.build(), FULL);
        due.is("count(6)", x.count(6), 1000);
        due.is("the OBJECT is there", x.count(4), 1);
        due.is("the ROW is there", x.count(3), 1);
        due.is("who STARTED", x.started(0), 0);
        due.is("keep(0)", x.keep(0), 1);
        due.is("line(1, 1)", x.line(1, 1), 1000);
        due.is("load(0)", x.load(0), 1);
    }
}
