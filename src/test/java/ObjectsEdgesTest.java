/** Promises 19 to 25 at their edges; each test quotes the sentence to which it holds the class. */
public final class ObjectsEdgesTest {
    private static final int NONE = FamilyFields.NONE, BAD = FamilyFields.BAD, FULL = FamilyFields.FULL;
    private static final int LEAST = Integer.MIN_VALUE, MOST = Integer.MAX_VALUE;
    private static final Due due = new Due();

    public static void main(String[] args) {
        numbered();
        sorts();
        sortsWithNone();
        bitsOfNumbers();
        bitsOfOthers();
        gives();
        numbersFromBits();
        recordsToMake();
        constantsToMake();
        setsToMake();
        rowsToMake();
        objectsToMake();
        everyPartIsAsked();
        everyCodeOfAMake();
        makesAreFull();
        startsComeByParts();
        startsFail();
        betweenOfWholeNumbers();
        betweenOfFloats();
        present();
        divides();
        size();
        itemOfARow();
        ofRecord();
        laid();
        checksInOrder();
        causes();
        causesOfTheLast();
        tolds();
        ofs();
        tags();
        sameByBits();
        sameByObjects();
        due.end();
    }

    private static void numbered() {
        due.term("======== 2 OBJECTS are numbered from 0 on, as they are made, ROWS likewise (with 0 to 16 ITEMS, 0 at first).");
        FamilyFields x = Worlds.withPart(10, 4);
        x.part(0, 'b', 4, 0, 0);
        x.check(0, 1, 2, 0, 0);
        for (int build = 0; build < 3; build++) {
            due.is("row(4, -1)", x.row(4, -1), -14);
            due.is("row(4, 3), the first ROW", x.row(4, 3), 0);
            due.is("row(5, 1)", x.row(5, 1), 1);
            due.is("make(0), the first OBJECT", Worlds.make(x, 0, 0, 7), 0);
            due.is("make(0) that fails", Worlds.make(x, 0, 0, 0), -13);
            due.is("make(0) that is BAD", Worlds.make(x, 0, 1, 7), BAD);
            due.is("make(0) behind those", Worlds.make(x, 0, -1, 8), 1);
            due.is("keep(0)", x.keep(0), build);
            due.is("load(" + build + ")", x.load(build), 2);
            due.is("the ROW that it made", x.told(2, 0), 2);
            due.is("row(4, 3)", x.row(4, 3), 3);
            due.is("make(0)", Worlds.make(x, 0, 3, 9), 3);
            due.is("OBJECTS", x.count(4), 4);
            due.is("ROWS", x.count(3), 4);
            long[] numbers = {7, 8, 7, 9};
            for (int o = 0; o < 4; o++) due.is("told(" + o + ", 1)", x.told(o, 1), numbers[o]);
            due.is("build()", x.build(), 4);
        }
    }

    /** What the machine's own number of a sort makes of bits. */
    private static long machine(int sort, long bits) {
        switch (sort) {
            case 0: return bits != 0 ? 1 : 0;
            case 1: return (byte) bits;
            case 2: return (short) bits;
            case 3: return (char) bits;
            case 4: return (int) bits;
            case 6: return Float.floatToIntBits(Float.intBitsToFloat((int) bits));
            case 7: return Double.doubleToLongBits(Double.longBitsToDouble(bits));
            default: return bits;
        }
    }

    private static void sorts() {
        due.term("SORTS of a PART: 0 flag, 1 byte, 2 short, 3 char, 4 int, 5 long, 6 float, 7 double; 8 a CONSTANT of an ENUMERATION,"
            + " or none; 9 a SET of its CONSTANTS; 10 a ROW of a LANE (0 .. 7, as SORTS), or none; 11 an OBJECT of a FAMILY, or none.");
        for (int sort = 0; sort < 8; sort++) {
            FamilyFields x = Worlds.withPart(sort, 0);
            x.record();
            due.is("part of SORT 10, of LANE " + sort, x.part(1, 'a', 10, sort, 0), 0);
            due.is("row(" + sort + ", 1)", x.row(sort, 1), 0);
            due.is("make(1) of that ROW", Worlds.make(x, 1, 0), 0);
            for (int bit = 0; bit < 64; bit++) {
                if (x.count(4) > 95) {
                    x.build();
                    x.row(sort, 1);
                }
                for (long bits : new long[] {1L << bit, (1L << bit) - 1, -1L << bit}) {
                    int made = Worlds.make(x, 0, bits);
                    due.is("SORT " + sort + " of " + bits, x.told(made, 0), machine(sort, bits));
                    x.put(0, 0, bits);
                    due.is("LANE " + sort + " of " + bits, x.item(0, 0), machine(sort, bits));
                }
            }
        }
    }

    private static void sortsWithNone() {
        for (int sort = 8; sort < 12; sort++) {
            FamilyFields x = Worlds.withPart(sort, 0);
            x.permit(0, false, 0);
            due.is("SORT " + sort + " of none", Worlds.make(x, 0, -1), sort == 9 ? BAD : 0);
            if (sort != 9) due.is("told", x.told(0, 0), -1);
            due.is("SORT " + sort + " of less", Worlds.make(x, 0, -2), BAD);
            x.build();
            x.row(0, 0);
            due.is("SORT " + sort + " of number 0", Worlds.make(x, 0, 0), sort == 11 ? BAD : 0);
        }
    }

    private static void bitsOfNumbers() {
        due.term("BITS of it: of 0: 1 or 0; of 1 to 5 itself; of 6 its 32 bits (as an int), of 7 its 64"
            + " (of what is no number 0x7fc00000, 0x7ff8000000000000); of 8 the ORDINAL, of 9 the sum of 2^ORDINAL,"
            + " of 10, 11 the number; none: -1.");
        long[][] given = {{0, 0, 0}, {0, 9, 1}, {1, -7, -7}, {2, -700, -700}, {3, 50000, 50000}, {4, -70000, -70000},
            {5, -(1L << 40), -(1L << 40)}, {6, bits(6, 1.5), 0x3fc00000}, {6, bits(6, -1.5), (int) 0xbfc00000L},
            {6, bits(6, -0.0), LEAST}, {6, bits(6, Double.NaN), 0x7fc00000}, {7, bits(7, 1.5), 0x3ff8000000000000L},
            {7, bits(7, -1.5), 0xbff8000000000000L}, {7, bits(7, -0.0), Long.MIN_VALUE}, {7, bits(7, Double.NaN), 0x7ff8000000000000L}};
        for (long[] g : given) {
            FamilyFields x = Worlds.withPart((int) g[0], 0);
            due.is("make(0)", Worlds.make(x, 0, g[1]), 0);
            due.is("BITS of SORT " + g[0], x.told(0, 0), g[2]);
        }
    }

    private static void bitsOfOthers() {
        FamilyFields x = Worlds.withConstants(8);
        x.family();
        x.record();
        for (int p = 0; p < 4; p++) x.part(0, 'a' + p, 8 + p, 0, 0);
        x.permit(0, false, 0);
        for (int set = 0; set < 256; set++) {
            int next = x.count(4), ordinal = set % 9 - 1, row = x.row(0, set % 17);
            due.is("make(0)", Worlds.make(x, 0, ordinal, set, row, next - 1), next);
            long[] told = {ordinal, set, row, next - 1};
            for (int p = 0; p < 4; p++) due.is("BITS of SORT " + (8 + p), x.told(next, p), told[p]);
            if (next == 39) x.build();
        }
    }

    private static void gives() {
        due.promise(19, "Number k of THE DRAFT: 1. BAD: k is not 0 .. 5.");
        FamilyFields x = new FamilyFields();
        x.record();
        for (int p = 0; p < 6; p++) x.part(0, 'a' + p, 5, 0, 0);
        for (int k : new int[] {-1, 6, LEAST, MOST}) due.is("give(" + k + ", 9)", x.give(k, 9), BAD);
        due.term("THE DRAFT has six numbers, BITS of PARTS 0 .. 5 (0 at first).");
        x.make(0);
        for (int p = 0; p < 6; p++) due.is("told(0, " + p + ")", x.told(0, p), 0);
        long[] bits = {Long.MIN_VALUE, -1, 0, 1, 1L << 32, Long.MAX_VALUE};
        for (int k = 0; k < 6; k++) due.is("give(" + k + ", " + bits[k] + ")", x.give(k, bits[k]), 1);
        x.make(0);
        for (int p = 0; p < 6; p++) due.is("told(1, " + p + ")", x.told(1, p), bits[p]);
        due.is("an OBJECT that was made stays as it is", x.told(0, 5), 0);
        x.build();
        x.make(0);
        for (int p = 0; p < 6; p++) due.is("told(0, " + p + ") in the next BUILD", x.told(0, p), bits[p]);
    }

    private static void numbersFromBits() {
        due.term("From BITS: of 0 whether they are not 0; of 1 to 7 as many of the lowest ones as it has; of 8 to 11 as told.");
        long[][] given = {
            {0, 0, 0}, {0, 1, 1}, {0, 2, 1}, {0, -1, 1}, {0, 1L << 32, 1}, {0, 1L << 63, 1},
            {1, 127, 127}, {1, 128, -128}, {1, 256, 0}, {1, -128, -128}, {1, -129, 127},
            {2, 32767, 32767}, {2, 32768, -32768}, {2, 65536, 0}, {2, -32769, 32767},
            {3, 65535, 65535}, {3, 65536, 0}, {3, -1, 65535},
            {4, MOST, MOST}, {4, MOST + 1L, LEAST}, {4, LEAST - 1L, MOST}, {4, 1L << 32, 0},
            {5, Long.MAX_VALUE, Long.MAX_VALUE}, {5, Long.MIN_VALUE, Long.MIN_VALUE},
            {6, 0x7f800000L, 0x7f800000}, {6, 0x7f800001L, 0x7fc00000}, {6, 0xff800001L, 0x7fc00000}, {6, 1L << 31, LEAST},
            {6, 0xff800000L, (int) 0xff800000L}, {6, 0x3_00000001L, 1}, {6, -1, 0x7fc00000},
            {7, 0x7ff0000000000000L, 0x7ff0000000000000L}, {7, 0x7ff0000000000001L, 0x7ff8000000000000L},
            {7, 0xfff0000000000000L, 0xfff0000000000000L}, {7, 0xfff0000000000001L, 0x7ff8000000000000L},
            {7, Long.MIN_VALUE, Long.MIN_VALUE},
        };
        for (long[] g : given) {
            FamilyFields x = Worlds.withPart((int) g[0], 0);
            due.is("make(0)", Worlds.make(x, 0, g[1]), 0);
            due.is("SORT " + g[0] + " of " + g[1], x.told(0, 0), g[2]);
        }
    }

    private static void recordsToMake() {
        due.promise(20, "BAD: the RECORD");
        FamilyFields x = new FamilyFields();
        due.is("make(0) of no RECORD", x.make(0), BAD);
        for (int r = 0; r < 6; r++) x.record();
        for (int r : new int[] {-1, 6, LEAST, MOST}) due.is("make(" + r + ")", x.make(r), BAD);
        due.is("no OBJECT came of that", x.count(4), 0);
        due.promise(20, "An OBJECT of a RECORD is MADE of THE DRAFT: its number.");
        for (int r = 5; r >= 0; r--) due.is("make(" + r + ")", x.make(r), 5 - r);
        due.is("count(4)", x.count(4), 6);
    }

    private static void taken(FamilyFields x, long bits) {
        int next = x.count(4);
        due.is("make(0) of " + bits, Worlds.make(x, 0, bits), next);
        due.is("told", x.told(next, 0), bits);
    }

    private static void refused(FamilyFields x, long bits) {
        int objects = x.count(4), starts = x.started(0);
        due.is("make(0) of " + bits, Worlds.make(x, 0, bits), BAD);
        due.is("OBJECTS", x.count(4), objects);
        due.is("who STARTED first", x.started(0), starts);
        due.is("THE CAUSE", x.cause(0), 0);
    }

    private static void constantsToMake() {
        due.promise(20, "SORT 8 (-1 or an ORDINAL)");
        for (int n = 0; n <= 8; n++) {
            FamilyFields x = Worlds.withConstants(n);
            x.record();
            x.part(0, 'a', 8, 0, 0);
            for (long bits : new long[] {-2, n, 8, 64, 255, 1L << 32, (1L << 32) - 1, Long.MIN_VALUE, Long.MAX_VALUE}) refused(x, bits);
            for (int bits = -1; bits < n; bits++) taken(x, bits);
            refused(x, n);
        }
    }

    private static void setsToMake() {
        due.promise(20, "9 (a sum of those)");
        for (int n = 0; n <= 8; n++) {
            FamilyFields x = Worlds.withConstants(n);
            x.record();
            x.part(0, 'a', 9, 0, 0);
            for (long bits : new long[] {-1, -2, 1L << n, (1L << n) + 1, 1L << 32, 1L << 62, Long.MIN_VALUE, Long.MAX_VALUE}) refused(x, bits);
            taken(x, 0);
            taken(x, (1L << n) - 1);
            for (int c = 0; c < n; c++) taken(x, 1L << c);
            refused(x, 1L << n);
        }
    }

    private static void rowsToMake() {
        due.promise(20, "10 (-1, or a ROW of that LANE)");
        for (int lane = 0; lane < 8; lane++) {
            FamilyFields x = Worlds.withPart(10, lane);
            refused(x, 0);
            for (int l = 0; l < 8; l++) x.row(l, 1);
            for (int l = 0; l < 8; l++) if (l != lane) refused(x, l);
            for (long bits : new long[] {-2, 8, (1L << 32) + lane, Long.MIN_VALUE, Long.MAX_VALUE}) refused(x, bits);
            taken(x, -1);
            taken(x, lane);
            x.build();
            refused(x, lane);
            taken(x, -1);
        }
    }

    private static void objectsToMake() {
        due.promise(20, "11 (-1, or an OBJECT of that FAMILY)");
        FamilyFields x = Worlds.withPart(11, 0);
        for (int r = 1; r < 4; r++) x.record();
        x.family();
        x.permit(1, false, 1);
        x.permit(0, false, 2);
        refused(x, 0);
        for (int r = 1; r < 4; r++) x.make(r);
        for (long bits : new long[] {-2, 0, 2, 3, (1L << 32) + 1, Long.MIN_VALUE, Long.MAX_VALUE}) refused(x, bits);
        taken(x, -1);
        taken(x, 1);
        refused(x, 3);
        x.build();
        refused(x, 1);
        x.becomes(0, 0, 11, 1);
        for (int r = 1; r < 4; r++) x.make(r);
        taken(x, 0);
        for (long bits : new long[] {1, 2, 3, 4}) refused(x, bits);
        x.build();
        x.permit(1, false, 0);
        taken(x, -1);
        taken(x, 0);
        taken(x, 1);
        refused(x, 3);
    }

    private static void everyPartIsAsked() {
        due.promise(20, "BAD: the RECORD, or a number of a PART of SORT 8 (-1 or an ORDINAL), 9 (a sum of those),"
            + " 10 (-1, or a ROW of that LANE), 11 (-1, or an OBJECT of that FAMILY) that is none such");
        for (int bad = 0; bad < 6; bad++) {
            for (int sort = 8; sort < 12; sort++) {
                FamilyFields x = Worlds.withConstants(3);
                x.family();
                x.record();
                x.record();
                for (int p = 0; p < 6; p++) x.part(0, 'a' + p, sort, 0, 0);
                for (int p = 0; p < bad; p++) x.part(1, 'a' + p, sort, 0, 0);
                for (int p = 0; p < 6; p++) x.give(p, p == bad ? 9 : sort == 9 ? 0 : -1);
                due.is("make(0) with number " + bad + " of SORT " + sort, x.make(0), BAD);
                due.is("nobody STARTED", x.started(0), NONE);
                due.is("make(1), which has fewer PARTS", x.make(1), 0);
            }
        }
    }

    private static void everyCodeOfAMake() {
        due.term("CHECKS of a PART, with the code of what is THROWN:");
        long[][] checks = {{4, 0, 5, 9, 4, 1}, {8, 1, 0, 0, -1, 2}, {4, 2, 0, 0, 0, 3}, {4, 3, 0, 0, -1, 4}, {10, 4, 2, 0, 0, 5},
            {11, 5, 0, 0, 0, 6}, {8, 6, 0, 0, 0, 7}};
        for (long[] c : checks) {
            FamilyFields x = Worlds.withPart((int) c[0], 0);
            x.record();
            x.permit(0, false, 1);
            x.check(0, 0, (int) c[1], c[2], c[3]);
            x.row(0, 2);
            x.make(1);
            for (int i = 0; i < 2; i++) {
                due.is("make(0), with CHECK " + c[1], Worlds.make(x, 0, c[4]), -10 - c[5]);
                causeIs(x, (int) c[5], 0, 0, 0, NONE);
                due.is("OBJECTS", x.count(4), 1);
            }
        }
        due.promise(20, "-10 less the code.");
        FamilyFields x = Worlds.withPart(8, 0);
        x.fails(0, true);
        due.is("make(0): INIT", Worlds.make(x, 0, 0), -19);
        due.is("make(0): NOT", Worlds.make(x, 0, 0), -20);
    }

    private static void makesAreFull() {
        due.promise(20, "FULL: 100 were made by make() in this BUILD");
        FamilyFields x = Worlds.small();
        x.part(1, 'a', 8, 0, 0);
        x.make(0);
        x.keep(0);
        x.build();
        for (int i = 0; i < 50; i++) {
            due.is("make(0)", Worlds.make(x, 0, 5), i);
            due.is("one that fails is not made", Worlds.make(x, 0, 0), -13);
            due.is("one that is BAD is not made", Worlds.make(x, 1, -5), BAD);
        }
        due.is("load(0) is not make()", x.load(0), 50);
        for (int i = 50; i < 100; i++) due.is("make(0)", Worlds.make(x, 0, 5), i + 1);
        for (int i = 0; i < 3; i++) due.is("make(0), the 101st", x.make(0), FULL);
        due.is("make(0) of 0: FULL ahead of the code", Worlds.make(x, 0, 0), FULL);
        due.is("THE CAUSE stays that of the last that failed", x.cause(1), 0);
        due.is("make(1) of 5: BAD ahead of FULL", Worlds.make(x, 1, 5), BAD);
        due.is("make(2): BAD ahead of FULL", x.make(2), BAD);
        due.is("make(1) of none: FULL", Worlds.make(x, 1, -1), FULL);
        due.is("make(1) of 0: FULL", Worlds.make(x, 1, 0), FULL);
        due.is("only RECORD 0 STARTED", x.started(1), NONE);
        due.is("count(4)", x.count(4), 101);
        due.is("build()", x.build(), 101);
        for (int i = 0; i < 100; i++) due.is("make(0) in the next BUILD", Worlds.make(x, 0, 5), i);
        due.is("make(0), the 101st", x.make(0), FULL);
    }

    private static void startsComeByParts() {
        due.term("To MAKE an OBJECT of a RECORD: the RECORD STARTS; then by PARTS in order the ENUMERATION of each CONSTANT"
            + " (not of none) and of each SET with one or more; then its CHECKS, in order, of the PARTS.");
        FamilyFields x = new FamilyFields();
        for (int e = 0; e < 4; e++) {
            x.enumeration();
            x.constant(e, 'a', false);
        }
        x.record();
        x.record();
        int[] enumerations = {2, 2, 0, 3, 1};
        for (int p = 0; p < 5; p++) x.part(1, 'a' + p, p % 2 == 0 ? 8 : 9, enumerations[p], 0);
        x.part(1, 'f', 4, 0, 0);
        x.check(1, 5, 2, 0, 0);
        due.is("make(1) of none at all", Worlds.make(x, 1, -1, 0, -1, 0, -1, 0), -13);
        due.is("the RECORD STARTED ahead of the CHECK", x.started(0), 1);
        due.is("and nothing else", x.started(1), NONE);
        due.is("make(1), with a CONSTANT behind", Worlds.make(x, 1, -1, 0, -1, 0, 0, 0), -13);
        due.is("the ENUMERATION STARTED ahead of the CHECK", x.started(1), 11);
        due.is("and nothing else", x.started(2), NONE);
        due.is("make(1) of all", Worlds.make(x, 1, 0, 1, 0, 1, 0, 1), 0);
        int[] starts = {1, 11, 12, 10, 13, NONE};
        for (int i = 0; i < 6; i++) due.is("started(" + i + ")", x.started(i), starts[i]);
        due.is("make(0)", x.make(0), 1);
        due.is("started(5)", x.started(5), 0);
    }

    private static void startsFail() {
        due.term("An ENUMERATION that was told to fail does so: 9 INIT, and from then on 10 NOT at each START; a RECORD does not.");
        for (int sort = 8; sort <= 9; sort++) {
            FamilyFields x = Worlds.withPart(sort, 0);
            x.part(0, 'b', 4, 0, 0);
            x.check(0, 1, 2, 0, 0);
            x.fails(0, true);
            due.is("make(0) of none: it is not STARTED", Worlds.make(x, 0, sort == 8 ? -1 : 0, 1), 0);
            x.build();
            due.is("make(0): INIT ahead of the CHECK", Worlds.make(x, 0, 1, 0), -19);
            int[] cause = {9, 0, 0, NONE, NONE};
            for (int what = 0; what < 5; what++) due.is("cause(" + what + ")", x.cause(what), cause[what]);
            for (int i = 0; i < 3; i++) due.is("make(0): NOT", x.make(0), -20);
            due.is("cause(0)", x.cause(0), 10);
            due.is("the RECORD STARTED, and stays so", x.started(0), 0);
            due.is("the ENUMERATION did not", x.started(1), NONE);
            due.is("no OBJECT was made", x.count(4), 0);
            x.fails(0, false);
            due.is("make(0): NOT, whatever it is told now", x.make(0), -20);
            due.is("make(0) of none", Worlds.make(x, 0, sort == 8 ? -1 : 0, 0), -13);
            x.build();
            due.is("make(0) in the next BUILD", Worlds.make(x, 0, 1, 1), 0);
            x.build();
            x.fails(0, true);
            due.is("make(0): INIT again in another BUILD", x.make(0), -19);
        }
        due.term("The first that fails is THE CAUSE, and there is no OBJECT; what has STARTED stays so.");
        FamilyFields x = Worlds.withConstants(1);
        for (int e = 1; e < 4; e++) {
            x.enumeration();
            x.constant(e, 'a', false);
        }
        x.record();
        for (int p = 0; p < 4; p++) x.part(0, 'a' + p, 8, p, 0);
        x.fails(1, true);
        x.fails(3, true);
        due.is("make(0)", x.make(0), -19);
        due.is("the PART", x.cause(2), 1);
        due.is("started(1)", x.started(1), 10);
        due.is("those behind it did not START", x.started(2), NONE);
        due.is("make(0) without it", Worlds.make(x, 0, 0, -1, 0, 0), -19);
        due.is("the PART", x.cause(2), 3);
        due.is("started(2)", x.started(2), 12);
        due.is("count(4)", x.count(4), 0);
    }

    private static void checked(int sort, int kind, long a, long b, long bits, int code) {
        FamilyFields x = Worlds.withPart(sort, 0);
        x.check(0, 0, kind, a, b);
        String call = "make(0) of " + bits + " of SORT " + sort + ", with " + a + ", " + b;
        due.is(call, Worlds.make(x, 0, bits), code == 0 ? 0 : -10 - code);
        due.is("cause(0)", x.cause(0), code);
        due.is("OBJECTS", x.count(4), code == 0 ? 1 : 0);
    }

    private static void betweenOfWholeNumbers() {
        due.term("0 BETWEEN a and b (of 0 to 7; floats, doubles as doubles, with a, b as doubles; what is no number is not):"
            + " 1 ARGUMENT, if it is not.");
        long[] least = {0, -128, -32768, 0, LEAST, Long.MIN_VALUE}, most = {1, 127, 32767, 65535, MOST, Long.MAX_VALUE};
        for (int sort = 0; sort < 6; sort++) {
            for (long edge : new long[] {least[sort], most[sort]}) {
                checked(sort, 0, edge, edge, edge, 0);
                checked(sort, 0, Long.MIN_VALUE, edge, edge, 0);
                checked(sort, 0, edge, Long.MAX_VALUE, edge, 0);
            }
            checked(sort, 0, least[sort] + 1, most[sort], least[sort], 1);
            checked(sort, 0, least[sort], most[sort] - 1, most[sort], 1);
            checked(sort, 0, 1, 0, 0, 1);
            checked(sort, 0, 1, 0, 1, 1);
            checked(sort, 0, Long.MAX_VALUE, Long.MIN_VALUE, 1, 1);
        }
        checked(1, 0, 128, 128, 128, 1);
        checked(1, 0, -128, -128, 128, 0);
        checked(4, 0, 1L << 32, 1L << 32, 0, 1);
        checked(5, 0, (1L << 53) + 1, (1L << 53) + 1, 1L << 53, 1);
        checked(5, 0, Long.MAX_VALUE, Long.MAX_VALUE, Long.MAX_VALUE - 1, 1);
    }

    private static long bits(int sort, double value) {
        return sort == 6 ? Float.floatToRawIntBits((float) value) : Double.doubleToRawLongBits(value);
    }

    private static void betweenOfFloats() {
        double inf = Double.POSITIVE_INFINITY;
        for (int sort = 6; sort < 8; sort++) {
            double above = sort == 6 ? Math.nextUp(3f) : Math.nextUp(3.0), tiny = sort == 6 ? Float.MIN_VALUE : Double.MIN_VALUE;
            checked(sort, 0, -3, 3, bits(sort, 3), 0);
            checked(sort, 0, -3, 3, bits(sort, -3), 0);
            checked(sort, 0, -3, 3, bits(sort, above), 1);
            checked(sort, 0, -3, 3, bits(sort, -above), 1);
            checked(sort, 0, 3, -3, bits(sort, 0), 1);
            checked(sort, 0, 0, 0, bits(sort, 0), 0);
            checked(sort, 0, 0, 0, bits(sort, -0.0), 0);
            checked(sort, 0, 0, 1, bits(sort, tiny), 0);
            checked(sort, 0, 0, 1, bits(sort, -tiny), 1);
            checked(sort, 0, -1, 0, bits(sort, -tiny), 0);
            checked(sort, 0, -1, 0, bits(sort, tiny), 1);
            checked(sort, 0, Long.MIN_VALUE, Long.MAX_VALUE, bits(sort, inf), 1);
            checked(sort, 0, Long.MIN_VALUE, Long.MAX_VALUE, bits(sort, -inf), 1);
            checked(sort, 0, Long.MIN_VALUE, Long.MAX_VALUE, bits(sort, 0x1p63), 0);
            checked(sort, 0, Long.MIN_VALUE, Long.MAX_VALUE, bits(sort, -0x1p63), 0);
            checked(sort, 0, Long.MIN_VALUE, Long.MAX_VALUE, bits(sort, 0x1.8p63), 1);
            checked(sort, 0, (1L << 53) + 1, (1L << 53) + 1, bits(sort, 0x1p53), 0);
            checked(sort, 0, (1L << 53) + 2, (1L << 53) + 2, bits(sort, 0x1p53), 1);
            checked(sort, 0, Long.MAX_VALUE, Long.MAX_VALUE, bits(sort, 0x1p63), 0);
            checked(sort, 0, (1L << 24) + 1, (1L << 24) + 1, bits(sort, 0x1p24), 1);
            checked(sort, 0, Long.MIN_VALUE, Long.MAX_VALUE, bits(sort, Double.NaN), 1);
            checked(sort, 0, Long.MIN_VALUE, Long.MAX_VALUE, -1, 1);
        }
    }

    private static void present() {
        due.term("1 PRESENT (8, 10, 11): 2 NULL, if it is none.");
        checked(8, 1, 0, 0, -1, 2);
        checked(8, 1, 0, 0, 0, 0);
        checked(10, 1, 0, 0, -1, 2);
        checked(11, 1, 0, 0, -1, 2);
        FamilyFields x = Worlds.withPart(10, 3);
        x.check(0, 0, 1, 0, 0);
        x.row(3, 0);
        due.is("make(0) of a ROW without ITEMS", Worlds.make(x, 0, 0), 0);
        x = Worlds.withPart(11, 0);
        x.record();
        x.permit(0, false, 1);
        x.check(0, 0, 1, 0, 0);
        x.make(1);
        due.is("make(0) of OBJECT 0", Worlds.make(x, 0, 0), 1);
    }

    private static void divides() {
        due.term("2 DIVIDES a (1 to 5): 3 ZERO by 0.");
        long[] round = {0, 256, 65536, 65536, 1L << 32};
        for (int sort = 1; sort <= 5; sort++) {
            for (long a : new long[] {0, 1, Long.MIN_VALUE, Long.MAX_VALUE}) {
                checked(sort, 2, a, 0, 0, 3);
                checked(sort, 2, a, 0, 1, 0);
                checked(sort, 2, a, 0, -1, 0);
            }
            if (sort < 5) checked(sort, 2, 7, 0, round[sort], 3);
        }
        checked(5, 2, 7, 0, 1L << 32, 0);
        checked(5, 2, 7, 0, Long.MIN_VALUE, 0);
    }

    private static void size() {
        due.term("3 SIZE (1 to 4): a row is made of as many cells as the PART leaves by 8 (with its sign): 4 SIZE below 0.");
        for (int sort : new int[] {1, 2, 4}) {
            for (int v = -17; v <= 17; v++) checked(sort, 3, 0, 0, v, v < 0 && v % 8 != 0 ? 4 : 0);
        }
        for (int v = -17; v <= 17; v++) checked(3, 3, 0, 0, v, 0);
        checked(1, 3, 0, 0, 127, 0);
        checked(1, 3, 0, 0, 128, 0);
        checked(1, 3, 0, 0, 129, 4);
        checked(2, 3, 0, 0, -32768, 0);
        checked(2, 3, 0, 0, 32769, 4);
        checked(4, 3, 0, 0, LEAST, 0);
        checked(4, 3, 0, 0, LEAST + 1L, 4);
        checked(4, 3, 0, 0, MOST, 0);
        checked(4, 3, 0, 0, 1L << 63, 0);
    }

    private static void itemOfARow() {
        due.term("4 ITEM a (10): 2 NULL without a ROW, 5 INDEX, if it has no ITEM a.");
        for (int n : new int[] {0, 1, 16}) {
            for (long a : new long[] {0, n - 1, n, -1, 16, 1L << 32, Long.MIN_VALUE, Long.MAX_VALUE}) {
                FamilyFields x = Worlds.withPart(10, 5);
                x.check(0, 0, 4, a, 0);
                x.row(5, n);
                due.is("make(0) of none", Worlds.make(x, 0, -1), -12);
                due.is("make(0) of " + n + " ITEMS, with ITEM " + a, Worlds.make(x, 0, 0), a >= 0 && a < n ? 0 : -15);
            }
        }
    }

    private static void ofRecord() {
        due.term("5 OF RECORD a (11): 6 CAST, if it is an OBJECT of another one.");
        for (long a : new long[] {-1, 0, 1, 2, 6, 1L << 32, (1L << 32) + 1, Long.MIN_VALUE, Long.MAX_VALUE}) {
            FamilyFields x = Worlds.withPart(11, 0);
            x.record();
            x.record();
            x.permit(0, false, 1);
            x.permit(0, false, 2);
            x.check(0, 0, 5, a, 0);
            x.make(1);
            x.make(2);
            due.is("make(0) of none", Worlds.make(x, 0, -1), 2);
            due.is("make(0) of one of RECORD 1, with " + a, Worlds.make(x, 0, 0), a == 1 ? 3 : -16);
            due.is("make(0) of one of RECORD 2, with " + a, Worlds.make(x, 0, 1), a == 2 ? 3 : -16);
        }
    }

    private static void laid() {
        due.term("6 LAID (8): 7 STORE, if it is a CONSTANT that is not BODIED.");
        checked(8, 6, 0, 0, -1, 0);
        checked(8, 6, 0, 0, 0, 7);
        checked(8, 6, 0, 0, 1, 0);
        checked(8, 6, 0, 0, 2, 7);
        FamilyFields x = Worlds.withPart(8, 0);
        x.check(0, 0, 6, 0, 0);
        x.exchange(0, 0, 1);
        due.is("make(0) of the one that came to 0", Worlds.make(x, 0, 0), 0);
        due.is("make(0) of the one that came to 1", Worlds.make(x, 0, 1), -17);
        x.build();
        x.forget(0, 0);
        due.is("make(0) of 0 when the BODIED one has gone", Worlds.make(x, 0, 0), -17);
    }

    private static void checksInOrder() {
        due.term("then its CHECKS, in order, of the PARTS. The first that fails is THE CAUSE, and there is no OBJECT;"
            + " what has STARTED stays so.");
        FamilyFields x = new FamilyFields();
        x.record();
        for (int p = 0; p < 4; p++) x.part(0, 'a' + p, 4, 0, 0);
        for (int p = 3; p >= 0; p--) x.check(0, p, 2, 0, 0);
        for (int fails = 0; fails < 16; fails++) {
            for (int p = 0; p < 4; p++) x.give(p, fails >> p & 1 ^ 1);
            int first = fails == 0 ? NONE : 31 - Integer.numberOfLeadingZeros(fails);
            int answer = x.make(0);
            due.is("make(0) with " + fails + " that fail", answer, fails == 0 ? 0 : -13);
            if (fails == 0) continue;
            due.is("the PART", x.cause(2), first);
            due.is("the CHECK", x.cause(3), 3 - first);
        }
        due.is("count(4)", x.count(4), 1);
    }

    private static void causes() {
        due.promise(21, "NONE of 1 to 4, if none did. BAD: what: the least int.");
        FamilyFields x = Worlds.small();
        due.is("cause(0)", x.cause(0), 0);
        for (int what = 1; what < 5; what++) due.is("cause(" + what + ")", x.cause(what), NONE);
        for (int what : new int[] {-1, 5, LEAST, MOST}) due.is("cause(" + what + ")", x.cause(what), LEAST);

        due.promise(21, "THE CAUSE of the latest make(), load() that failed by a code");
        x.row(4, -1);
        x.row(4, 0);
        x.put(0, 0, 1);
        x.named(0, 'z');
        x.make(9);
        x.load(9);
        x.fails(0, true);
        x.build();
        x.named(0, 'a');
        x.work(0, 0, 0, 0);
        due.is("cause(0) after other calls that failed", x.cause(0), 0);
        due.is("make(0)", Worlds.make(x, 0, 0), -13);
        causeIs(x, 3, 0, 0, 0, NONE);
        due.is("make(0) of 1", Worlds.make(x, 0, 1), 0);
        x.make(9);
        x.load(0);
        x.named(0, 'a');
        causeIs(x, 3, 0, 0, 0, NONE);
        x.keep(0);
        x.build();
        causeIs(x, 3, 0, 0, 0, NONE);
        x.check(0, 0, 0, 5, 9);
        due.is("load(0)", x.load(0), -11);
        causeIs(x, 1, 0, 0, 1, 0);
        due.is("becomes(0, 0, 4, 0), without its CHECKS", x.becomes(0, 0, 4, 0), 4);
        due.is("load(0) that does not fail", x.load(0), 0);
        causeIs(x, 1, 0, 0, 1, 0);
        x.build();
        x.without(0, 0);
        causeIs(x, 1, 0, 0, 1, 0);
        x.part(0, 'a', 4, 0, 0);
        x.check(0, 0, 2, 0, 0);
        due.is("make(0)", Worlds.make(x, 0, 0), -13);
        causeIs(x, 3, 0, 0, 0, NONE);
        for (int what : new int[] {-1, 5, LEAST, MOST}) due.is("cause(" + what + ")", x.cause(what), LEAST);
    }

    private static void causesOfTheLast() {
        due.promise(21, "what = 0 the code (0: none did), 1 the RECORD, 2 the PART, 3 the CHECK (NONE: it was none),"
            + " 4 the LINE that was LOADED (NONE: make()).");
        FamilyFields x = new FamilyFields();
        for (int r = 0; r < 6; r++) x.record();
        for (int p = 0; p < 6; p++) x.part(5, 'a' + p, 4, 0, 0);
        for (int i = 0; i < 64; i++) x.keep(x.make(5));
        x.build();
        for (int p = 2; p < 6; p++) x.check(5, p, 0, p == 5 ? 1 : 0, 9);
        due.is("make(5): its last PART, by its last CHECK", x.make(5), -11);
        causeIs(x, 1, 5, 5, 3, NONE);
        due.is("load(63): the last LINE", x.load(63), -11);
        causeIs(x, 1, 5, 5, 3, 63);
        x.becomes(5, 5, 2, 0);
        due.is("load(62): by no CHECK", x.load(62), -16);
        causeIs(x, 6, 5, 5, NONE, 62);
    }

    private static void causeIs(FamilyFields x, int... cause) {
        for (int what = 0; what < 5; what++) due.is("cause(" + what + ")", x.cause(what), cause[what]);
    }

    private static void tolds() {
        due.promise(22, "BITS of a PART of an OBJECT; the least long: there is none such.");
        FamilyFields x = new FamilyFields();
        x.record();
        x.record();
        for (int p = 0; p < 6; p++) x.part(0, 'a' + p, 5, 0, 0);
        Worlds.make(x, 0, 10, 11, 12, 13, 14, Long.MIN_VALUE);
        x.make(1);
        for (int p = 0; p < 5; p++) due.is("told(0, " + p + ")", x.told(0, p), 10 + p);
        due.is("told(0, 5), which is that itself", x.told(0, 5), Long.MIN_VALUE);
        for (int p : new int[] {-1, 6, LEAST, MOST}) due.is("told(0, " + p + ")", x.told(0, p), Long.MIN_VALUE);
        due.is("told(1, 0), of no PARTS", x.told(1, 0), Long.MIN_VALUE);
        for (int o : new int[] {-1, 2, LEAST, MOST}) due.is("told(" + o + ", 0)", x.told(o, 0), Long.MIN_VALUE);
        x.build();
        due.is("told(0, 0) in the next BUILD", x.told(0, 0), Long.MIN_VALUE);
        x.make(1);
        due.is("told(0, 0) of another RECORD", x.told(0, 0), Long.MIN_VALUE);
    }

    private static void ofs() {
        due.promise(23, "The RECORD of an OBJECT. BAD.");
        FamilyFields x = new FamilyFields();
        due.is("of(0) of none", x.of(0), BAD);
        for (int r = 0; r < 6; r++) x.record();
        for (int r = 5; r >= 0; r--) x.make(r);
        for (int o = 0; o < 6; o++) due.is("of(" + o + ")", x.of(o), 5 - o);
        for (int o : new int[] {-1, 6, LEAST, MOST}) due.is("of(" + o + ")", x.of(o), BAD);
        x.build();
        due.is("of(0) in the next BUILD", x.of(0), BAD);
    }

    private static void tags() {
        due.promise(24, "The TAG of an OBJECT's RECORD in a FAMILY; NONE: it is none of it. BAD.");
        FamilyFields x = Worlds.full();
        x.make(5);
        int[] inFamily = {NONE, 4, 0};
        for (int f = 0; f < 3; f++) due.is("tag(0, " + f + ")", x.tag(0, f), inFamily[f]);
        for (int f : new int[] {-1, 3, LEAST, MOST}) due.is("tag(0, " + f + ")", x.tag(0, f), BAD);
        for (int o : new int[] {-1, 1, LEAST, MOST}) due.is("tag(" + o + ", 2)", x.tag(o, 2), BAD);
        x = new FamilyFields();
        x.record();
        x.make(0);
        due.is("tag(0, 0) of no FAMILY", x.tag(0, 0), BAD);
    }

    private static void sameByBits() {
        due.promise(25, "Whether two OBJECTS are THE SAME (1, 0). BAD.");
        FamilyFields x = Worlds.withPart(5, 0);
        due.is("same(0, 0) of none", x.same(0, 0), BAD);
        Worlds.make(x, 0, 1);
        for (int o : new int[] {-1, 1, LEAST, MOST}) {
            due.is("same(0, " + o + ")", x.same(0, o), BAD);
            due.is("same(" + o + ", 0)", x.same(o, 0), BAD);
            due.is("same(" + o + ", " + o + ")", x.same(o, o), BAD);
        }
        due.is("same(0, 0)", x.same(0, 0), 1);
        due.is("make(0) when same() was asked", Worlds.make(x, 0, 1), 1);
        due.is("same(1, 0)", x.same(1, 0), 1);
        x.build();
        due.is("same(0, 0) in the next BUILD", x.same(0, 0), BAD);
        Worlds.make(x, 0, 1);
        Worlds.make(x, 0, 2);
        Worlds.make(x, 0, 1);
        due.is("same(0, 1), as others were in the BUILD before", x.same(0, 1), 0);
        due.is("same(0, 2)", x.same(0, 2), 1);

        due.term("Two OBJECTS are THE SAME, if they are of one RECORD, with PARTS alike: by BITS (0 to 10),"
            + " OBJECTS if they are THE SAME, or none both.");
        long[][] pairs = {
            {0, 1, 2, 1}, {0, 0, 1, 0}, {1, 127, 128, 0}, {1, 128, -128, 1}, {1, 0, 256, 1}, {2, 1, 65537, 1}, {3, -1, 65535, 1},
            {4, 1L << 32, 0, 1}, {4, MOST, LEAST, 0}, {5, 1L << 32, 0, 0}, {5, Long.MIN_VALUE, Long.MIN_VALUE, 1},
            {6, 0, 0x80000000L, 0}, {6, 0x7fc00000L, 0xffc00001L, 1}, {6, 0x7f800000L, 0x7f800001L, 0},
            {7, 0, Long.MIN_VALUE, 0}, {7, 0x7ff8000000000000L, -1, 1}, {8, -1, -1, 1}, {8, 0, -1, 0}, {8, 0, 1, 0},
            {9, 0, 0, 1}, {9, 7, 3, 0}, {10, -1, -1, 1}, {10, 0, 0, 1}, {10, 0, 1, 0}, {10, 0, -1, 0},
        };
        for (long[] p : pairs) {
            x = Worlds.withPart((int) p[0], 0);
            x.part(0, 'b', 5, 0, 0);
            x.row(0, 1);
            x.row(0, 1);
            Worlds.make(x, 0, p[1], 0);
            Worlds.make(x, 0, p[2], 0);
            Worlds.make(x, 0, p[2], 1);
            due.is("SORT " + p[0] + " of " + p[1] + " and " + p[2], x.same(0, 1), p[3]);
            due.is("the other way round", x.same(1, 0), p[3]);
            due.is("with another last PART", x.same(1, 2), 0);
        }
    }

    private static void sameByObjects() {
        FamilyFields x = Worlds.withPart(11, 0);
        x.record();
        x.record();
        x.permit(0, false, 0);
        x.permit(0, false, 1);
        x.permit(0, false, 2);
        x.part(1, 'a', 4, 0, 0);
        Worlds.make(x, 1, 5);
        Worlds.make(x, 1, 5);
        Worlds.make(x, 1, 6);
        x.make(2);
        for (int inner : new int[] {0, 1, 2, 3, -1, -1}) Worlds.make(x, 0, inner);
        int[][] same = {{0, 1, 1}, {0, 2, 0}, {4, 5, 1}, {4, 6, 0}, {4, 7, 0}, {4, 8, 0}, {8, 9, 1}, {0, 4, 0}, {7, 8, 0}};
        for (int[] s : same) {
            due.is("same(" + s[0] + ", " + s[1] + ")", x.same(s[0], s[1]), s[2]);
            due.is("same(" + s[1] + ", " + s[0] + ")", x.same(s[1], s[0]), s[2]);
        }
        Worlds.make(x, 0, 4);
        Worlds.make(x, 0, 5);
        Worlds.make(x, 0, 6);
        due.is("same(10, 11), two down", x.same(10, 11), 1);
        due.is("same(10, 12), two down", x.same(10, 12), 0);
        FamilyFields two = new FamilyFields();
        two.record();
        two.record();
        two.make(0);
        two.make(0);
        two.make(1);
        due.is("same(0, 1), of no PARTS", two.same(0, 1), 1);
        due.is("same(0, 2), of two RECORDS without PARTS", two.same(0, 2), 0);
    }
}
