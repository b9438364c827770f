/** Promises 29 to 35 at their edges; each test quotes the sentence to which it holds the class. */
public final class TableEdgesTest {
    private static final int NONE = FamilyFields.NONE, BAD = FamilyFields.BAD;
    private static final int STATE = FamilyFields.STATE, FULL = FamilyFields.FULL;
    private static final int LEAST = Integer.MIN_VALUE, MOST = Integer.MAX_VALUE;
    private static final Due due = new Due();

    public static void main(String[] args) {
        story();
        lastCalls();
        keepIsBad();
        keepIsFull();
        keepIsFullByParts();
        keepsOnceInABuild();
        keepsPartsInOrder();
        keepsOfEachPart();
        keepsWhatIsThen();
        loadIsBad();
        loadsOnceInABuild();
        everyCodeOfALoad();
        standardsIfNothingWasKept();
        sortsThatGo();
        numbersWiden();
        constantsByName();
        setsLeaveOut();
        rowsOnceInABuild();
        objectsOfParts();
        objectsOfFamilies();
        failuresOfParts();
        partsInOrderAheadOfTheStart();
        lines();
        words();
        wordsWithout();
        ranges();
        rangesNow();
        counts();
        leftOutEver();
        abouts();
        due.end();
    }

    /** Record 0 with objects of itself a, b, and an int c. */
    private static FamilyFields withTree() {
        FamilyFields x = new FamilyFields();
        x.family();
        x.record();
        x.permit(0, false, 0);
        x.part(0, 'a', 11, 0, 0);
        x.part(0, 'b', 11, 0, 0);
        x.part(0, 'c', 4, 0, 0);
        return x;
    }

    private static FamilyFields keptOnce(int sort, int of, long bits) {
        FamilyFields x = Worlds.withPart(sort, of);
        due.is("make(0)", Worlds.make(x, 0, bits), 0);
        due.is("keep(0)", x.keep(0), 0);
        x.build();
        return x;
    }

    private static void causeIs(FamilyFields x, int... cause) {
        for (int what = 0; what < 5; what++) due.is("cause(" + what + ")", x.cause(what), cause[what]);
    }

    private static void story() {
        due.term("Objects of families as fields: enumerations with constants, some with bodies of their own; records with parts"
            + " of all sorts and constructors that check them; sealed families told by tags; what is kept lies in columns by lanes"
            + " and names, and is made back through the constructors of other builds, where parts came, went or widened,"
            + " constants moved or went; and who started first. ======== 1 TYPES.");
        FamilyFields x = allSorts();
        long[] inner = {1, -100, -30000, 60000, 7, 1L << 40};
        long[] outer = {0x3fc00000L, 0x4004000000000000L, 1, 7, 0, 0};
        due.is("make(0) that its constructor refuses", Worlds.make(x, 0, 1, -100, -30000, 60000, 0, 1), -13);
        due.is("make(0)", Worlds.make(x, 0, inner), 0);
        due.is("make(1)", Worlds.make(x, 1, outer), 1);
        for (int p = 0; p < 6; p++) due.is("told(0, " + p + ")", x.told(0, p), inner[p]);
        for (int p = 0; p < 6; p++) due.is("told(1, " + p + ")", x.told(1, p), outer[p]);
        due.is("tag(0, 0)", x.tag(0, 0), 1);
        due.is("tag(1, 0)", x.tag(1, 0), 0);
        due.is("a body of its own", x.work(0, 1, 0, 1), 5);
        due.is("no body of its own", x.work(0, 2, 0, 1), 3);
        int[] starts = {0, 1, 10, NONE};
        for (int i = 0; i < 4; i++) due.is("started(" + i + ")", x.started(i), starts[i]);
        due.is("keep(1)", x.keep(1), 1);
        due.is("the column of a constant", x.word(Due.name("constant"), 'b', 0), 1);
        due.is("the column of a set", x.range(Due.name("set"), 0, 2, 2, 0), 1);
        due.is("build()", x.build(), 2);
        otherBuild(x);
    }

    /** Record 0 with parts of sorts 0 to 5, record 1 of sorts 6 to 11, each named by its sort; family 0 of both. */
    private static FamilyFields allSorts() {
        FamilyFields x = Worlds.withConstants(3);
        x.family();
        x.record();
        x.record();
        x.permit(0, false, 1);
        x.permit(0, false, 0);
        String[] names = {"flag", "byte", "short", "char", "int", "long", "float", "double", "constant", "set", "row", "object"};
        for (int sort = 0; sort < 12; sort++) x.part(sort / 6, Due.name(names[sort]), sort, 0, 0);
        x.check(0, 4, 2, 0, 0);
        x.check(1, 2, 6, 0, 0);
        x.row(0, 2);
        x.put(0, 1, 1);
        return x;
    }

    private static void otherBuild(FamilyFields x) {
        due.is("a constant moves", x.exchange(0, 1, 2), 1);
        due.is("a constant goes", x.forget(0, 0), 2);
        due.is("a part goes", x.without(0, 3), 5);
        due.is("a part comes", x.part(0, Due.name("new"), 3, 0, 'n'), 5);
        due.is("a part widens", x.becomes(0, 1, 7, 0), 1);
        due.is("a part widens", x.becomes(1, 0, 7, 0), 6);
        due.is("load(1)", x.load(1), 1);
        long[] inner = {1, 0xc059000000000000L, -30000, 7, 1L << 40, 'n'};
        long[] outer = {0x3ff8000000000000L, 0x4004000000000000L, 1, 3, 0, 0};
        for (int p = 0; p < 6; p++) due.is("told(0, " + p + ")", x.told(0, p), inner[p]);
        for (int p = 0; p < 6; p++) due.is("told(1, " + p + ")", x.told(1, p), outer[p]);
        due.is("LEFT OUT", x.count(7), 1);
        due.is("item(0, 0)", x.item(0, 0), 0);
        due.is("item(0, 1)", x.item(0, 1), 1);
        int[] starts = {0, 1, 10, NONE};
        for (int i = 0; i < 4; i++) due.is("started(" + i + ")", x.started(i), starts[i]);
        due.is("build()", x.build(), 2);
        due.is("a constructor that checks more", x.check(0, 5, 0, 'o', 'z'), 2);
        due.is("load(1)", x.load(1), -11);
        causeIs(x, 1, 0, 5, 1, 0);
    }

    private static void lastCalls() {
        due.term("An object is used for at most 512 calls after it has been made; what later calls answer is free.");
        for (int end = 0; end < 6; end++) {
            FamilyFields x = new FamilyFields();
            x.record();
            x.part(0, 'a', 5, 0, 0);
            for (int call = 3; call < 509; call++) due.is("give(0, " + call + ")", x.give(0, call), 1);
            due.is("make(0), the 509th call", x.make(0), 0);
            due.is("keep(0), the 510th call", x.keep(0), 0);
            due.is("build(), the 511th call", x.build(), 1);
            if (end == 0) due.is("load(0), the 512th call", x.load(0), 0);
            if (end == 1) due.is("make(0), the 512th call", x.make(0), 0);
            if (end == 2) due.is("count(5), the 512th call", x.count(5), 1);
            if (end == 3) due.is("part(0, ..), the 512th call", x.part(0, 'b', 4, 0, 0), 1);
            if (end == 4) due.is("row(4, 16), the 512th call", x.row(4, 16), 0);
            if (end == 5) due.is("build(), the 512th call", x.build(), 0);
        }
    }

    private static void keepIsBad() {
        due.promise(29, "KEEPS an OBJECT: its LINE. BAD");
        FamilyFields x = withTree();
        due.is("keep(0) of none", x.keep(0), BAD);
        Worlds.make(x, 0, -1, -1, 1);
        for (int o : new int[] {-1, 1, LEAST, MOST}) due.is("keep(" + o + ")", x.keep(o), BAD);
        due.is("LINES", x.count(5), 0);
        due.is("keep(0)", x.keep(0), 0);
        due.is("LINES", x.count(5), 1);
        x.build();
        due.is("keep(0) when it has gone", x.keep(0), BAD);
    }

    private static void keepIsFull() {
        due.term("======== 3 THE TABLE has LINES, 64 at most, from 0 on.");
        FamilyFields x = withTree();
        for (int i = 0; i < 66; i++) Worlds.make(x, 0, -1, -1, i);
        for (int i = 0; i < 64; i++) due.is("keep(" + i + ")", x.keep(i), i);
        due.promise(29, "FULL: all that is to be kept has no room (none is).");
        for (int i = 0; i < 2; i++) due.is("keep(64), the 65th LINE", x.keep(64), FULL);
        due.is("keep(66): BAD ahead of FULL", x.keep(66), BAD);
        due.is("keep(-1): BAD ahead of FULL", x.keep(-1), BAD);
        for (int i = 0; i < 64; i += 21) due.is("keep(" + i + "), which has its LINE", x.keep(i), i);
        due.is("LINES", x.count(5), 64);
        x.build();
        due.is("make(0)", Worlds.make(x, 0, -1, -1, 5), 0);
        due.is("keep(0) in the next BUILD", x.keep(0), FULL);
        due.is("load(63)", x.load(63), 1);
        due.is("told(1, 2)", x.told(1, 2), 63);
        due.is("keep(1), which was LOADED", x.keep(1), FULL);
    }

    private static void keepIsFullByParts() {
        FamilyFields x = withTree();
        Worlds.make(x, 0, -1, -1, 0);
        for (int i = 1; i < 66; i++) Worlds.make(x, 0, i - 1, i > 1 ? i - 2 : -1, i);
        due.is("keep(65): 66 LINES", x.keep(65), FULL);
        due.is("keep(64): 65 LINES", x.keep(64), FULL);
        due.is("none is KEPT", x.count(5), 0);
        due.is("keep(63): 64 LINES, each OBJECT once", x.keep(63), 63);
        due.is("LINES", x.count(5), 64);
        due.is("keep(64): one more", x.keep(64), FULL);

        x = withTree();
        for (int i = 0; i < 62; i++) x.keep(Worlds.make(x, 0, -1, -1, i));
        Worlds.make(x, 0, -1, -1, 62);
        Worlds.make(x, 0, 62, 0, 63);
        Worlds.make(x, 0, 63, 62, 64);
        due.is("keep(64): 62 LINES and 3", x.keep(64), FULL);
        due.is("none is KEPT", x.count(5), 62);
        due.is("keep(63): 62 LINES and 2, a PART has its LINE", x.keep(63), 63);
        due.is("keep(62), which was KEPT on the way", x.keep(62), 62);
        due.is("keep(64): 64 LINES and 1", x.keep(64), FULL);
    }

    private static void keepsOnceInABuild() {
        due.term("To KEEP an OBJECT (once in a BUILD; then it has its LINE)");
        FamilyFields x = withTree();
        Worlds.make(x, 0, -1, -1, 1);
        Worlds.make(x, 0, 0, 0, 2);
        due.is("keep(1)", x.keep(1), 1);
        for (int i = 0; i < 2; i++) due.is("keep(1) again", x.keep(1), 1);
        due.is("keep(0), which was KEPT as a PART", x.keep(0), 0);
        due.is("LINES", x.count(5), 2);
        x.build();
        Worlds.make(x, 0, -1, -1, 1);
        due.is("keep(0), another OBJECT in the next BUILD", x.keep(0), 2);
        due.is("its BUILD", x.line(2, 1), 1);
        due.is("load(1)", x.load(1), 2);
        due.is("keep(2), an OBJECT that was LOADED and not KEPT", x.keep(2), 4);
        due.is("its PART too", x.keep(1), 3);
    }

    private static void keepsPartsInOrder() {
        due.term("first the OBJECTS of its PARTS, in order, likewise; then it is the next LINE");
        FamilyFields x = withTree();
        for (int i = 0; i < 4; i++) Worlds.make(x, 0, -1, -1, i);
        Worlds.make(x, 0, 3, 2, 4);
        Worlds.make(x, 0, 1, 0, 5);
        Worlds.make(x, 0, 5, 4, 6);
        due.is("keep(6)", x.keep(6), 6);
        int[] order = {1, 0, 5, 3, 2, 4, 6};
        for (int l = 0; l < 7; l++) due.is("keep(" + order[l] + ")", x.keep(order[l]), l);
        x.build();
        for (int l = 0; l < 7; l++) due.is("load(" + l + ")", x.load(l), l);
        for (int l = 0; l < 7; l++) due.is("told(" + l + ", 2)", x.told(l, 2), order[l]);
        long[][] parts = {{-1, -1}, {-1, -1}, {0, 1}, {-1, -1}, {-1, -1}, {3, 4}, {2, 5}};
        for (int build = 0; build < 2; build++) {
            for (int o = 0; o < 7; o++) {
                for (int p = 0; p < 2; p++) due.is("told(" + o + ", " + p + ")", x.told(o, p), parts[o][p]);
                due.is("told(" + o + ", 2)", x.told(o, 2), order[o]);
            }
            x.build();
            due.is("load(6) with all its PARTS", x.load(6), 6);
        }
    }

    private static void keepsOfEachPart() {
        due.term("then it is the next LINE: the RECORD, the BUILD, and of each PART NAME, SORT, ENUMERATION or LANE, and:");
        FamilyFields x = Worlds.withConstants(2);
        x.enumeration();
        for (int c = 0; c < 2; c++) x.constant(1, 'a' + c, false);
        for (int r = 0; r < 2; r++) x.record();
        int[][] parts = {{3, 0}, {8, 0}, {9, 0}, {10, 1}};
        for (int r = 0; r < 2; r++) {
            for (int p = 0; p < 4; p++) x.part(r, 'a' + p, parts[p][0], parts[p][1], 0);
        }
        x.build();
        x.row(1, 2);
        for (int r = 1; r >= 0; r--) {
            due.is("keep", x.keep(Worlds.make(x, r, 65535, 1, 3, 0)), 1 - r);
            due.is("the RECORD", x.line(1 - r, 0), r);
            due.is("the BUILD", x.line(1 - r, 1), 1);
            due.is("PARTS", x.line(1 - r, 2), 4);
        }
        x.build();
        keptOf(x, 0, 4, 0, 0, 65535);
        keptOf(x, 0, 2, 0, -16, 0);
        keptOf(x, 1, 8, 1, -16, 0);
        keptOf(x, 1, 9, 1, -16, 0);
        keptOf(x, 1, 9, 0, 0, 2);
        keptOf(x, 2, 9, 1, -16, 0);
        keptOf(x, 2, 8, 0, -16, 0);
        keptOf(x, 3, 10, 2, -16, 0);
        for (int p = 0; p < 4; p++) x.without(0, 0);
        for (int p = 3; p >= 0; p--) x.part(0, p == 2 ? 'z' : 'a' + p, parts[p][0], parts[p][1], 0);
        due.is("load(1), with its PARTS in another order", x.load(1), 0);
        long[] told = {0, 0, 1, 65535};
        for (int p = 0; p < 4; p++) due.is("told(0, " + p + ")", x.told(0, p), told[p]);
        due.is("load(0), of the other RECORD", x.load(0), 1);
        told = new long[] {65535, 1, 3, 1};
        for (int p = 0; p < 4; p++) due.is("told(1, " + p + ")", x.told(1, p), told[p]);
    }

    /** Line 1, of record 0, is loaded with one part of another sort, or of another of; then the part is as it was. */
    private static void keptOf(FamilyFields x, int part, int sort, int of, int answer, long told) {
        int[] ofs = {0, 0, 0, 1};
        int before = x.becomes(0, part, sort, of);
        due.is("load(1) with PART " + part + " of SORT " + sort + ", of " + of, x.load(1), answer);
        if (answer == 0) due.is("told(0, " + part + ")", x.told(0, part), told);
        x.build();
        x.becomes(0, part, before, ofs[part]);
        due.is("load(1) as it was", x.load(1), 0);
        x.build();
    }

    private static void keepsWhatIsThen() {
        due.term("of 0 to 7 what it is; CONSTANTS by their NAMES; of a ROW its ITEMS as they are then; of an OBJECT its LINE.");
        long[] bits = {1, -128, -32768, 65535, LEAST, Long.MIN_VALUE, 0x7fc00000, 0x7ff8000000000000L};
        for (int sort = 0; sort < 8; sort++) {
            FamilyFields x = keptOnce(sort, 0, bits[sort]);
            due.is("load(0)", x.load(0), 0);
            due.is("SORT " + sort, x.told(0, 0), bits[sort]);
        }
        for (int lane = 0; lane < 8; lane++) {
            for (int n : new int[] {0, 1, 16}) {
                FamilyFields x = Worlds.withPart(10, lane);
                x.row(lane, n);
                Worlds.make(x, 0, 0);
                for (int i = 0; i < n; i++) x.put(0, i, bits[lane]);
                x.keep(0);
                for (int i = 0; i < n; i++) x.put(0, i, 0);
                due.is("keep(0) again, which keeps nothing more", x.keep(0), 0);
                x.build();
                due.is("load(0)", x.load(0), 0);
                due.is("the ROW", x.told(0, 0), 0);
                due.is("size(0)", x.size(0), n);
                for (int i = 0; i < 16; i++) due.is("item(0, " + i + ")", x.item(0, i), i < n ? bits[lane] : 0);
            }
        }
    }

    private static void loadIsBad() {
        due.promise(30, "LOADS a LINE: the OBJECT. BAD; -10 less the code.");
        FamilyFields x = Worlds.small();
        due.is("load(0) of none", x.load(0), BAD);
        x.make(0);
        x.keep(0);
        for (int l : new int[] {-1, 1, LEAST, MOST}) due.is("load(" + l + ")", x.load(l), BAD);
        due.is("OBJECTS", x.count(4), 1);
        due.is("load(0)", x.load(0), 1);
        x.build();
        for (int l : new int[] {-1, 1, LEAST, MOST}) due.is("load(" + l + ")", x.load(l), BAD);
        due.is("load(0)", x.load(0), 0);
    }

    private static void loadsOnceInABuild() {
        due.term("To LOAD a LINE (once in a BUILD; then it is that OBJECT)");
        FamilyFields x = withTree();
        Worlds.make(x, 0, -1, -1, 1);
        Worlds.make(x, 0, 0, 0, 2);
        x.keep(1);
        for (int build = 0; build < 3; build++) {
            int first = x.count(4);
            due.is("load(1)", x.load(1), first + 1);
            for (int i = 0; i < 2; i++) due.is("load(1) again", x.load(1), first + 1);
            due.is("load(0), which was LOADED as a PART", x.load(0), first);
            due.is("OBJECTS", x.count(4), first + 2);
            due.is("told, the OBJECT of its PART", x.told(first + 1, 0), first);
            due.is("told, the OBJECT of its other PART", x.told(first + 1, 1), first);
            x.build();
            due.is("line(1, 3) in the next BUILD", x.line(1, 3), NONE);
        }
    }

    /** A line by which load() fails by each code there is, and that nothing is loaded then. */
    private static void everyCodeOfALoad() {
        due.promise(30, "LOADS a LINE: the OBJECT. BAD; -10 less the code.");
        int[][] checks = {{4, 0, 1}, {8, 1, 2}, {4, 2, 3}, {4, 3, 4}, {10, 4, 2}, {8, 6, 7}};
        long[] bits = {-1, -1, 0, -1, -1, 0};
        for (int i = 0; i < checks.length; i++) {
            FamilyFields x = keptOnce(checks[i][0], 0, bits[i]);
            x.check(0, 0, checks[i][1], 0, 9);
            failsBy(x, checks[i][2], 0, 0);
            due.is("the RECORD STARTED", x.started(0), 0);
        }
        FamilyFields x = Worlds.withPart(10, 0);
        x.row(0, 2);
        Worlds.make(x, 0, 0);
        x.keep(0);
        x.build();
        x.check(0, 0, 4, 2, 0);
        failsBy(x, 5, 0, 0);
        x = Worlds.withPart(11, 0);
        x.record();
        x.permit(0, false, 1);
        x.make(1);
        Worlds.make(x, 0, 0);
        x.keep(1);
        x.build();
        x.check(0, 0, 5, 0, 0);
        due.is("load(1): CAST by a CHECK", x.load(1), -16);
        causeIs(x, 6, 0, 0, 0, 1);
        x = keptOnce(4, 0, 7);
        x.becomes(0, 0, 2, 0);
        failsBy(x, 6, 0, NONE);
        x = keptOnce(8, 0, 2);
        x.forget(0, 2);
        failsBy(x, 8, 0, NONE);
        for (int sort = 8; sort <= 9; sort++) {
            x = keptOnce(sort, 0, 1);
            x.fails(0, true);
            due.is("load(0): INIT", x.load(0), -19);
            causeIs(x, 9, 0, 0, NONE, 0);
            failsBy(x, 10, 0, NONE);
            x.fails(0, false);
            failsBy(x, 10, 0, NONE);
        }
    }

    private static void failsBy(FamilyFields x, int code, int part, int check) {
        for (int i = 0; i < 2; i++) {
            due.is("load(0) by code " + code, x.load(0), -10 - code);
            causeIs(x, code, 0, part, check, 0);
            due.is("line(0, 3)", x.line(0, 3), NONE);
            due.is("OBJECTS", x.count(4), 0);
        }
    }

    private static void standardsIfNothingWasKept() {
        due.term("an OBJECT of its RECORD is MADE, as the RECORD is now, each PART, in order, by what was kept of its NAME;"
            + " STANDARD, if nothing was");
        FamilyFields x = new FamilyFields();
        x.record();
        x.part(0, 'a', 5, 0, 91);
        x.part(0, 'b', 5, 0, 92);
        Worlds.make(x, 0, 1, 2);
        x.keep(0);
        x.build();
        x.without(0, 0);
        x.part(0, 'c', 1, 0, 128);
        x.part(0, 'a', 5, 0, 94);
        x.part(0, Due.name("aa"), 5, 0, 95);
        due.is("load(0)", x.load(0), 0);
        long[] told = {2, -128, 1, 95, Long.MIN_VALUE};
        for (int p = 0; p < 5; p++) due.is("told(0, " + p + ")", x.told(0, p), told[p]);
        x.build();
        for (int p = 0; p < 4; p++) x.without(0, 0);
        due.is("load(0) as no PARTS are left", x.load(0), 0);
        due.is("told(0, 0)", x.told(0, 0), Long.MIN_VALUE);
        x.build();
        x.part(0, 'z', 4, 0, 0);
        x.check(0, 0, 2, 0, 0);
        due.is("load(0): a STANDARD is checked", x.load(0), -13);
        x.without(0, 0);
        x.part(0, 'z', 4, 0, 5);
        x.check(0, 0, 2, 0, 0);
        due.is("load(0) with a STANDARD that is fine", x.load(0), 0);
    }

    private static void sortsThatGo() {
        due.term("6 CAST, if it is of SORTS that do not go: they go, if they are the same (8, 9: of one ENUMERATION;"
            + " 10: of one LANE); 1 to 2, 4, 5, 6, 7; 2 to 4, 5, 6, 7; 3 to 4, 5, 6, 7; 4 to 5, 6, 7; 5 to 6, 7; 6 to 7"
            + " (as the machine widens); 8 to 9 of one ENUMERATION (a SET of that, of none without).");
        String[] wider = {"", "2 4 5 6 7", "4 5 6 7", "4 5 6 7", "5 6 7", "6 7", "7", "", "9", "", "", ""};
        for (int from = 0; from < 12; from++) {
            for (int to = 0; to < 12; to++) {
                boolean asOne = from == to || (" " + wider[from] + " ").contains(" " + to + " ");
                for (int of = 0; of < 2; of++) {
                    FamilyFields x = keptOnce(from, 0, from < 8 || from == 9 ? 0 : -1);
                    x.enumeration();
                    x.family();
                    x.becomes(0, 0, to, of);
                    boolean goes = asOne && (of == 0 || from < 8 || from == 11);
                    due.is("load(0), SORT " + from + " as " + to + " of " + of, x.load(0), goes ? 0 : -16);
                    due.is("who STARTED", x.started(0), goes ? 0 : NONE);
                    if (goes) due.is("told(0, 0)", x.told(0, 0), to < 8 || to == 9 ? 0 : -1);
                    else causeIs(x, 6, 0, 0, NONE, 0);
                }
            }
        }
        FamilyFields x = keptOnce(10, 4, -1);
        x.becomes(0, 0, 10, 5);
        due.is("load(0): a ROW that is none, of another LANE", x.load(0), -16);
        x = keptOnce(4, 0, 7);
        x.without(0, 0);
        due.is("load(0) without the PART", x.load(0), 0);
    }

    private static void numbersWiden() {
        long[][] edges = {{}, {-128, -1, 0, 127}, {-32768, -1, 32767}, {0, 32768, 65535},
            {LEAST, -1, 8388607, 8388608, 8388609, 16777215, 16777216, 16777217, 16777218, 16777219, MOST - 64, MOST - 63, MOST},
            {Long.MIN_VALUE, -1, (1L << 52) - 1, 1L << 52, (1L << 52) + 1, (1L << 53) - 1, 1L << 24, (1L << 24) + 1, (1L << 24) + 3, (1L << 53) + 1, (1L << 53) + 3, Long.MAX_VALUE,
                Long.MAX_VALUE - 511, Long.MAX_VALUE - 512, (1L << 62) + (1L << 38), (1L << 62) + (1L << 38) + 1}};
        for (int from = 1; from < 6; from++) {
            for (long v : edges[from]) {
                for (int to = from + 1; to < 8; to++) {
                    if (to == 3) continue;
                    long wide = to == 6 ? Float.floatToIntBits((float) v) : to == 7 ? Double.doubleToLongBits((double) v) : v;
                    widens(from, to, v, wide);
                }
            }
        }
        for (int v : new int[] {0, LEAST, 1, LEAST + 1, 0x7fffff, 0x800000, 0x7f7fffff, 0x7f800000, 0xff800000, 0x7fc00000, 0x3f800001}) {
            widens(6, 7, v, Double.doubleToLongBits((double) Float.intBitsToFloat(v)));
        }
        widens(6, 7, 0xff800001L, 0x7ff8000000000000L);
    }

    private static void widens(int from, int to, long bits, long wide) {
        FamilyFields x = keptOnce(from, 0, bits);
        x.becomes(0, 0, to, 0);
        due.is("load(0)", x.load(0), 0);
        due.is(bits + " of SORT " + from + " as " + to, x.told(0, 0), wide);
    }

    private static void constantsByName() {
        due.term("A CONSTANT is that of its NAME now: 8 UNKNOWN, if there is none");
        for (int c = 0; c < 3; c++) {
            for (int gone = 0; gone < 3; gone++) {
                FamilyFields x = keptOnce(8, 0, c);
                x.forget(0, gone);
                int now = c < gone ? c : c - 1;
                due.is("load(0) of " + c + " without " + gone, x.load(0), c == gone ? -18 : 0);
                if (c != gone) due.is("told(0, 0)", x.told(0, 0), now);
            }
        }
        FamilyFields x = keptOnce(8, 0, 2);
        for (int i = 0; i < 3; i++) x.forget(0, 0);
        due.is("load(0) of an empty ENUMERATION", x.load(0), -18);
        due.is("nobody STARTED", x.started(0), NONE);
        x.constant(0, 'c', true);
        due.is("load(0) as the NAME is there again", x.load(0), 0);
        due.is("told(0, 0)", x.told(0, 0), 0);
        x = keptOnce(8, 0, -1);
        for (int i = 0; i < 3; i++) x.forget(0, 0);
        due.is("load(0) of none", x.load(0), 0);
        due.is("told(0, 0)", x.told(0, 0), NONE);
        due.is("the RECORD alone STARTED", x.started(1), NONE);
    }

    private static void setsLeaveOut() {
        due.term("of a SET (also of one that was kept as a CONSTANT) those that are unknown are LEFT OUT, and counted.");
        for (int set = 0; set < 8; set++) {
            for (int gone = 0; gone < 3; gone++) {
                FamilyFields x = keptOnce(9, 0, set);
                x.forget(0, gone);
                int low = set & (1 << gone) - 1, high = set >> gone + 1 << gone;
                due.is("load(0) of " + set + " without " + gone, x.load(0), 0);
                due.is("told(0, 0)", x.told(0, 0), low | high);
                due.is("LEFT OUT", x.count(7), set >> gone & 1);
                due.is("load(0) again", x.load(0), 0);
                due.is("LEFT OUT once", x.count(7), set >> gone & 1);
            }
        }
        FamilyFields x = Worlds.withConstants(8);
        x.record();
        x.part(0, 'a', 9, 0, 0);
        Worlds.make(x, 0, 255);
        x.keep(0);
        x.build();
        for (int left = 7; left >= 0; left--) x.forget(0, 0);
        due.is("load(0) of all eight, unknown", x.load(0), 0);
        due.is("told(0, 0)", x.told(0, 0), 0);
        due.is("LEFT OUT", x.count(7), 8);
        due.is("the ENUMERATION of an empty SET does not START", x.started(1), NONE);
        for (int c = -1; c < 3; c++) {
            x = keptOnce(8, 0, c);
            x.becomes(0, 0, 9, 0);
            x.forget(0, 1);
            due.is("load(0) of CONSTANT " + c + " as a SET", x.load(0), 0);
            due.is("told(0, 0)", x.told(0, 0), c == 0 ? 1 : c == 2 ? 2 : 0);
            due.is("LEFT OUT", x.count(7), c == 1 ? 1 : 0);
        }
    }

    private static void rowsOnceInABuild() {
        due.term("Of a ROW a new one is made, with the ITEMS (once in a BUILD).");
        FamilyFields x = Worlds.withPart(10, 1);
        x.part(0, 'b', 10, 1, 0);
        x.part(0, 'c', 4, 0, 0);
        x.row(1, 16);
        x.put(0, 15, 127);
        Worlds.make(x, 0, 0, 0, 0);
        x.keep(0);
        due.is("load(0) in the same BUILD", x.load(0), 1);
        due.is("a new ROW", x.told(1, 0), 1);
        due.is("another of the other PART", x.told(1, 1), 2);
        due.is("load(0) again", x.load(0), 1);
        due.is("ROWS", x.count(3), 3);
        x.build();
        x.check(0, 2, 2, 0, 0);
        for (int i = 0; i < 3; i++) {
            due.is("load(0), which fails behind them", x.load(0), -13);
            due.is("ROWS that were made stay, and are made once", x.count(3), 2);
        }
        x.put(1, 15, 5);
        x.becomes(0, 2, 4, 0);
        due.is("load(0)", x.load(0), 0);
        due.is("told(0, 0)", x.told(0, 0), 0);
        due.is("told(0, 1)", x.told(0, 1), 1);
        due.is("item(0, 15), as kept", x.item(0, 15), 127);
        due.is("item(1, 15), as it was put since", x.item(1, 15), 5);
        due.is("put(0, 15, 128), by its LANE", x.put(0, 15, 128), 1);
        due.is("item(0, 15)", x.item(0, 15), -128);
        x.build();
        due.is("load(0) in the next BUILD", x.load(0), 0);
        due.is("item(1, 15), as kept", x.item(1, 15), 127);
    }

    private static void objectsOfParts() {
        due.term("The OBJECT of a PART is LOADED: if that fails, all fails with THE CAUSE of that");
        FamilyFields x = withTree();
        Worlds.make(x, 0, -1, -1, 0);
        for (int i = 1; i < 64; i++) Worlds.make(x, 0, i - 1, i - 1, i);
        x.keep(63);
        x.build();
        x.check(0, 2, 0, 1, 99);
        due.is("load(63): the one 63 below fails", x.load(63), -11);
        causeIs(x, 1, 0, 2, 0, 0);
        due.is("OBJECTS", x.count(4), 0);
        x.becomes(0, 2, 4, 0);
        x.check(0, 2, 0, 0, 62);
        due.is("load(63): itself fails", x.load(63), -11);
        causeIs(x, 1, 0, 2, 0, 63);
        due.is("what was LOADED on the way stays", x.count(4), 63);
        due.is("line(62, 3)", x.line(62, 3), 62);
        due.is("line(63, 3)", x.line(63, 3), NONE);
        due.is("load(62)", x.load(62), 62);
        due.is("load(63) again", x.load(63), -11);
        due.is("OBJECTS", x.count(4), 63);
        x.build();
        x.becomes(0, 2, 4, 0);
        due.is("load(63): all 64", x.load(63), 63);
        for (int l = 0; l < 64; l++) due.is("line(" + l + ", 3)", x.line(l, 3), l);
        x.build();
        x.becomes(0, 2, 3, 0);
        due.is("load(63): a PART of the one 63 below does not go", x.load(63), -16);
        causeIs(x, 6, 0, 2, NONE, 0);
        innerOfAnotherRecord();
    }

    private static void innerOfAnotherRecord() {
        FamilyFields x = Worlds.withPart(11, 0);
        x.record();
        x.permit(0, false, 1);
        x.part(1, 'b', 5, 0, 0);
        x.part(1, 'c', 8, 0, 0);
        Worlds.make(x, 1, 7, 2);
        Worlds.make(x, 0, 0);
        x.keep(1);
        x.build();
        x.forget(0, 2);
        due.is("load(1): a CONSTANT of its PART is UNKNOWN", x.load(1), -18);
        causeIs(x, 8, 1, 1, NONE, 0);
        x.becomes(1, 0, 4, 0);
        due.is("load(1): a number of its PART does not go", x.load(1), -16);
        causeIs(x, 6, 1, 0, NONE, 0);
        x.without(1, 0);
        x.becomes(1, 0, 9, 0);
        due.is("load(1)", x.load(1), 1);
        causeIs(x, 6, 1, 0, NONE, 0);
    }

    private static void objectsOfFamilies() {
        due.term("6 CAST, if it is none of the PART's FAMILY now.");
        FamilyFields x = Worlds.withPart(11, 0);
        x.record();
        x.permit(0, false, 1);
        x.make(1);
        Worlds.make(x, 0, 0);
        Worlds.make(x, 0, -1);
        x.keep(1);
        x.keep(2);
        x.build();
        x.family();
        x.becomes(0, 0, 11, 1);
        due.is("load(1): FAMILY 1 is empty", x.load(1), -16);
        causeIs(x, 6, 0, 0, NONE, 1);
        due.is("its PART was LOADED, and stays", x.line(0, 3), 0);
        due.is("RECORD 1 STARTED", x.started(0), 1);
        due.is("RECORD 0 did not", x.started(1), NONE);
        due.is("load(2) of none goes", x.load(2), 1);
        x.build();
        x.permit(1, false, 0);
        due.is("load(1): FAMILY 1 has another RECORD", x.load(1), -16);
        x.build();
        x.permit(1, true, 0);
        due.is("load(1): FAMILY 1 has FAMILY 0", x.load(1), 1);
        due.is("told(1, 0)", x.told(1, 0), 0);
    }

    private static void failuresOfParts() {
        due.term("All this is ahead of the START of the RECORD; what was LOADED, made, counted on the way stays.");
        FamilyFields x = new FamilyFields();
        x.enumeration();
        x.constant(0, 'a', false);
        x.constant(0, 'b', false);
        x.family();
        x.record();
        x.record();
        x.permit(0, false, 1);
        x.part(0, 'a', 9, 0, 0);
        x.part(0, 'b', 10, 0, 0);
        x.part(0, 'c', 11, 0, 0);
        x.part(0, 'd', 8, 0, 0);
        x.row(0, 3);
        x.make(1);
        Worlds.make(x, 0, 3, 0, 0, 1);
        x.keep(1);
        x.build();
        x.forget(0, 1);
        for (int i = 1; i < 4; i++) {
            due.is("load(1): its last PART is UNKNOWN", x.load(1), -18);
            causeIs(x, 8, 0, 3, NONE, 1);
            due.is("LEFT OUT, each time", x.count(7), i);
            due.is("ROWS", x.count(3), 1);
            due.is("OBJECTS", x.count(4), 1);
            due.is("started(0), by the PART", x.started(0), 1);
            due.is("started(1)", x.started(1), NONE);
        }
        due.is("types are shut by what was LOADED", x.constant(0, 'b', false), STATE);
    }

    /** Parts behind the one that fails are not asked: nothing of them is loaded, made or counted. */
    private static void partsInOrderAheadOfTheStart() {
        due.term("each PART, in order, by what was kept of its NAME; STANDARD, if nothing was");
        FamilyFields x = Worlds.withPart(5, 0);
        x.record();
        x.permit(0, false, 1);
        x.part(0, 'b', 9, 0, 0);
        x.part(0, 'c', 10, 0, 0);
        x.part(0, 'd', 11, 0, 0);
        x.row(0, 1);
        x.make(1);
        Worlds.make(x, 0, 1, 7, 0, 0);
        x.keep(1);
        x.build();
        x.forget(0, 0);
        x.becomes(0, 0, 4, 0);
        due.is("load(1): its first PART does not go", x.load(1), -16);
        for (int what : new int[] {3, 4, 7}) due.is("count(" + what + ")", x.count(what), 0);
        due.is("started(0)", x.started(0), NONE);
        x.becomes(0, 0, 6, 0);
        x.becomes(0, 3, 10, 0);
        due.is("load(1): its last PART does not go", x.load(1), -16);
        due.is("LEFT OUT", x.count(7), 1);
        due.is("ROWS", x.count(3), 1);
        due.is("the OBJECT of a SORT that does not go is not LOADED", x.count(4), 0);
    }

    private static void lines() {
        due.promise(31, "Of a LINE: what = 0 the RECORD, 1 the BUILD, 2 how many PARTS, 3 the OBJECT as which it is LOADED"
            + " in this BUILD (NONE). BAD.");
        FamilyFields x = new FamilyFields();
        for (int what = 0; what < 4; what++) due.is("line(0, " + what + ") of none", x.line(0, what), BAD);
        for (int r = 0; r < 6; r++) {
            x.record();
            for (int p = 0; p <= r; p++) x.part(r, 'a' + p, 4, 0, 0);
        }
        x.build();
        x.build();
        for (int r = 0; r < 6; r++) x.keep(x.make(5 - r));
        for (int l = 0; l < 6; l++) {
            due.is("line(" + l + ", 0)", x.line(l, 0), 5 - l);
            due.is("line(" + l + ", 1)", x.line(l, 1), 2);
            due.is("line(" + l + ", 2)", x.line(l, 2), 6 - l);
            due.is("line(" + l + ", 3)", x.line(l, 3), NONE);
        }
        for (int what : new int[] {-1, 4, LEAST, MOST}) due.is("line(0, " + what + ")", x.line(0, what), BAD);
        for (int l : new int[] {-1, 6, LEAST, MOST}) {
            for (int what = 0; what < 4; what++) due.is("line(" + l + ", " + what + ")", x.line(l, what), BAD);
        }
        x.build();
        for (int p = 5; p >= 0; p--) x.without(5, p);
        due.is("line(0, 2), as it was kept", x.line(0, 2), 6);
        due.is("load(0)", x.load(0), 0);
        due.is("line(0, 2), as it was kept", x.line(0, 2), 6);
        due.is("line(0, 3)", x.line(0, 3), 0);
        due.is("line(1, 3)", x.line(1, 3), NONE);
        due.is("keep(0)", x.keep(0), 6);
        due.is("line(6, 2), of no PARTS", x.line(6, 2), 0);
        due.is("line(6, 1)", x.line(6, 1), 3);
        due.is("line(6, 3)", x.line(6, 3), NONE);
        x.build();
        due.is("line(0, 3) in the next BUILD", x.line(0, 3), NONE);
    }

    /** Lines 0 to 5: constant a; set of b, c; no constant, empty set; constant c, all; of record 1 long a; set a, b. */
    private static FamilyFields withWords() {
        FamilyFields x = Worlds.withPart(8, 0);
        x.part(0, 'b', 9, 0, 0);
        x.record();
        x.part(1, 'a', 5, 0, 0);
        x.part(1, 'b', 9, 0, 0);
        x.enumeration();
        x.constant(1, 'b', false);
        x.record();
        x.part(2, 'b', 8, 1, 0);
        long[][] parts = {{0, 0, 0}, {0, -1, 6}, {0, -1, 0}, {0, 2, 7}, {1, 'a', 3}, {2, 0, 0}};
        for (long[] p : parts) x.keep(Worlds.make(x, (int) p[0], p[1], p[2]));
        return x;
    }

    private static void wordIs(FamilyFields x, long part, long name, int... found) {
        String call = "word(" + part + ", " + name + ", ";
        due.is(call + "-1)", x.word(part, name, -1), found.length);
        for (int i = 0; i < found.length; i++) due.is(call + i + ")", x.word(part, name, i), found[i]);
        for (int i : new int[] {found.length, found.length + 1, 64, MOST, -2, LEAST}) {
            due.is(call + i + ")", x.word(part, name, i), NONE);
        }
    }

    private static void words() {
        due.promise(32, "The i-th LINE, from 0 on, of which a PART of a NAME was kept as CONSTANT or SET with the CONSTANT"
            + " of another NAME; i = -1: how many; NONE: there is none such.");
        wordIs(new FamilyFields(), 'a', 'a');
        FamilyFields x = withWords();
        wordIs(x, 'a', 'a', 0);
        wordIs(x, 'a', 'b');
        wordIs(x, 'a', 'c', 3);
        wordIs(x, 'b', 'a', 3, 4);
        wordIs(x, 'b', 'b', 1, 3, 4, 5);
        wordIs(x, 'b', 'c', 1, 3);
        wordIs(x, 'b', 'd');
        wordIs(x, 'c', 'a');
        long[] noNames = {0, -1, 'a' << 8, Long.MIN_VALUE, Long.MAX_VALUE};
        for (long no : noNames) {
            wordIs(x, no, 'a');
            wordIs(x, 'a', no);
        }
        due.is("nobody STARTED more by that", x.started(5), NONE);
    }

    private static void wordsWithout() {
        FamilyFields x = withWords();
        x.build();
        x.exchange(0, 0, 2);
        x.forget(0, 1);
        x.without(0, 1);
        x.becomes(0, 0, 4, 0);
        wordIs(x, 'a', 'a', 0);
        wordIs(x, 'b', 'b', 1, 3, 4, 5);
        x = Worlds.withPart(8, 0);
        for (int i = 0; i < 64; i++) x.keep(Worlds.make(x, 0, i % 2));
        int[] odd = new int[32];
        for (int i = 0; i < 32; i++) odd[i] = 2 * i + 1;
        wordIs(x, 'a', 'b', odd);
    }

    private static void rangeIs(FamilyFields x, long part, int e, int low, int high, int... found) {
        String call = "range(" + part + ", " + e + ", " + low + ", " + high + ", ";
        due.is(call + "-1)", x.range(part, e, low, high, -1), found.length);
        for (int i = 0; i < found.length; i++) due.is(call + i + ")", x.range(part, e, low, high, i), found[i]);
        for (int i : new int[] {found.length, found.length + 1, 64, MOST, -2, LEAST}) {
            due.is(call + i + ")", x.range(part, e, low, high, i), NONE);
        }
    }

    private static void ranges() {
        due.promise(33, "Likewise with a CONSTANT of an ENUMERATION that has an ORDINAL from low to high now."
            + " (NONE, too: no ENUMERATION.)");
        FamilyFields x = withWords();
        rangeIs(x, 'a', 0, 0, 0, 0);
        rangeIs(x, 'a', 0, 1, 1);
        rangeIs(x, 'a', 0, 2, 2, 3);
        rangeIs(x, 'a', 0, 0, 2, 0, 3);
        rangeIs(x, 'a', 0, LEAST, MOST, 0, 3);
        rangeIs(x, 'a', 0, -1, -1);
        rangeIs(x, 'a', 0, -5, -1);
        rangeIs(x, 'a', 0, 3, MOST);
        rangeIs(x, 'a', 0, 2, 0);
        rangeIs(x, 'a', 0, MOST, LEAST);
        rangeIs(x, 'b', 0, 0, 0, 3, 4);
        rangeIs(x, 'b', 0, 1, 2, 1, 3, 4);
        rangeIs(x, 'b', 0, 2, 2, 1, 3);
        rangeIs(x, 'b', 1, 0, 0, 5);
        rangeIs(x, 'b', 1, 1, 9);
        rangeIs(x, 'a', 1, 0, 9);
        rangeIs(x, 'c', 0, 0, 9);
        rangeIs(x, 0, 0, 0, 9);
        for (int e : new int[] {-1, 2, LEAST, MOST}) {
            for (int i = -2; i < 2; i++) due.is("range(b, " + e + ", 0, 9, " + i + ")", x.range('b', e, 0, 9, i), NONE);
        }
    }

    private static void rangesNow() {
        FamilyFields x = withWords();
        x.build();
        x.exchange(0, 0, 2);
        rangeIs(x, 'a', 0, 0, 0, 3);
        rangeIs(x, 'a', 0, 2, 2, 0);
        x.forget(0, 0);
        rangeIs(x, 'a', 0, LEAST, MOST, 0);
        rangeIs(x, 'a', 0, 1, 1, 0);
        rangeIs(x, 'b', 0, LEAST, MOST, 1, 3, 4);
        x.forget(0, 0);
        rangeIs(x, 'b', 0, LEAST, MOST, 3, 4);
        x.forget(0, 0);
        rangeIs(x, 'b', 0, LEAST, MOST);
        x.constant(0, 'c', false);
        rangeIs(x, 'b', 0, 0, 0, 1, 3);
        x.without(0, 1);
        rangeIs(x, 'b', 0, 0, 0, 1, 3);
        due.is("nobody STARTED by asking", x.started(0), NONE);
    }

    private static void counts() {
        due.promise(34, "What = 0 ENUMERATIONS, 1 RECORDS, 2 FAMILIES, 3 ROWS, 4 OBJECTS, 5 LINES, 6 the BUILD,"
            + " 7 CONSTANTS that were LEFT OUT, ever. BAD.");
        FamilyFields x = new FamilyFields();
        int[] counts = new int[8];
        countsAre(x, counts);
        for (int i = 0; i < 5; i++) {
            x.enumeration();
            counts[0] = Math.min(4, i + 1);
            countsAre(x, counts);
        }
        for (int i = 0; i < 7; i++) {
            x.record();
            counts[1] = Math.min(6, i + 1);
            countsAre(x, counts);
        }
        for (int i = 0; i < 4; i++) {
            x.family();
            counts[2] = Math.min(3, i + 1);
            countsAre(x, counts);
        }
        x.row(4, 2);
        counts[3]++;
        countsAre(x, counts);
        x.make(0);
        x.make(0);
        counts[4] = 2;
        countsAre(x, counts);
        x.keep(1);
        counts[5]++;
        countsAre(x, counts);
        x.build();
        counts[3] = 0;
        counts[4] = 0;
        counts[6]++;
        countsAre(x, counts);
        for (int what : new int[] {-1, 8, LEAST, MOST}) due.is("count(" + what + ")", x.count(what), BAD);
    }

    private static void countsAre(FamilyFields x, int[] counts) {
        for (int what = 0; what < 8; what++) due.is("count(" + what + ")", x.count(what), counts[what]);
    }

    private static void leftOutEver() {
        FamilyFields x = Worlds.withPart(9, 0);
        Worlds.make(x, 0, 7);
        x.keep(0);
        int leftOut = 0;
        for (int gone = 1; gone <= 3; gone++) {
            x.build();
            x.forget(0, 0);
            due.is("count(7) before", x.count(7), leftOut);
            due.is("load(0)", x.load(0), 0);
            leftOut += gone;
            due.is("count(7)", x.count(7), leftOut);
        }
        x.build();
        due.is("count(7) in the next BUILD", x.count(7), 6);
    }

    private static void abouts() {
        due.promise(35, "Of a type, by a number: what = 0 CONSTANTS of an ENUMERATION, 1 PARTS of a RECORD, 2 its CHECKS,"
            + " 3 MEMBERS of a FAMILY, 4 its LEAVES. BAD.");
        FamilyFields x = new FamilyFields();
        for (int what = 0; what < 5; what++) due.is("about(0, " + what + ") of none", x.about(0, what), BAD);
        x.enumeration();
        due.is("about(0, 0) of an empty one", x.about(0, 0), 0);
        for (int what = 1; what < 5; what++) due.is("about(0, " + what + ") of none", x.about(0, what), BAD);
        x = Worlds.full();
        int[] most = {8, 6, 4, 4}, counts = {4, 6, 6, 3, 3}, leaves = {4, 6, 6};
        for (int what = 0; what < 5; what++) {
            for (int t = 0; t < counts[what]; t++) {
                due.is("about(" + t + ", " + what + ")", x.about(t, what), what == 4 ? leaves[t] : most[what]);
            }
            for (int t : new int[] {-1, counts[what], LEAST, MOST}) due.is("about(" + t + ", " + what + ")", x.about(t, what), BAD);
        }
        for (int what : new int[] {-1, 5, LEAST, MOST}) due.is("about(0, " + what + ")", x.about(0, what), BAD);
        x.forget(3, 0);
        x.without(0, 4);
        due.is("about(3, 0) less one", x.about(3, 0), 7);
        due.is("about(0, 1) less one", x.about(0, 1), 5);
        due.is("about(0, 2) less its two", x.about(0, 2), 2);
        due.is("about(1, 2) as before", x.about(1, 2), 4);
    }
}
