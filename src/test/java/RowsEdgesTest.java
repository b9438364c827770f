/** Promises 15 to 18 at their edges; each test quotes the sentence to which it holds the class. */
public final class RowsEdgesTest {
    private static final int BAD = FamilyFields.BAD, FULL = FamilyFields.FULL;
    private static final int LEAST = Integer.MIN_VALUE, MOST = Integer.MAX_VALUE;
    private static final Due due = new Due();

    public static void main(String[] args) {
        lanesAndLengths();
        rowsAreFull();
        rowsOfLoadsAreNotCounted();
        puts();
        itemsByBits();
        items();
        sizes();
        due.end();
    }

    private static void lanesAndLengths() {
        due.promise(15, "BAD: LANE, n above 16");
        FamilyFields x = new FamilyFields();
        for (int lane : new int[] {-1, 8, LEAST, MOST}) {
            for (int n : new int[] {0, 16, 17, -1}) due.is("row(" + lane + ", " + n + ")", x.row(lane, n), BAD);
        }
        for (int n : new int[] {17, 18, MOST}) {
            for (int lane = 0; lane < 8; lane++) due.is("row(" + lane + ", " + n + ")", x.row(lane, n), BAD);
        }
        due.promise(15, "-14: n is below 0.");
        for (int n : new int[] {-1, -2, LEAST}) {
            for (int lane = 0; lane < 8; lane++) due.is("row(" + lane + ", " + n + ")", x.row(lane, n), -14);
        }
        due.is("no ROW came of that", x.count(3), 0);
        due.is("no CAUSE came of that", x.cause(0), 0);

        due.promise(15, "A ROW of a LANE with n ITEMS: its number.");
        for (int lane = 0; lane < 8; lane++) {
            due.is("row(" + lane + ", 0)", x.row(lane, 0), 3 * lane);
            due.is("row(" + lane + ", 1)", x.row(lane, 1), 3 * lane + 1);
            due.is("row(" + lane + ", 16)", x.row(lane, 16), 3 * lane + 2);
        }
        due.term("ROWS likewise (with 0 to 16 ITEMS, 0 at first)");
        for (int lane = 0; lane < 8; lane++) {
            due.is("size", x.size(3 * lane), 0);
            due.is("size", x.size(3 * lane + 1), 1);
            due.is("size", x.size(3 * lane + 2), 16);
            for (int i = 0; i < 16; i++) due.is("item " + i + " at first", x.item(3 * lane + 2, i), 0);
        }
        due.is("put(23, 15, 5): the last ITEM of the longest", x.put(23, 15, 5), 1);
        x.build();
        for (int r = 0; r < 24; r++) x.row(7, 16);
        due.is("0 at first in the next BUILD too", x.item(23, 15), 0);
    }

    private static void rowsAreFull() {
        due.promise(15, "FULL: 40 were made by row() in this BUILD");
        FamilyFields x = new FamilyFields();
        for (int build = 0; build < 3; build++) {
            for (int r = 0; r < 40; r++) {
                due.is("one that is BAD is not made", x.row(8, 1), BAD);
                due.is("one of -1 is not made", x.row(0, -1), -14);
                due.is("row(" + r % 8 + ", 2)", x.row(r % 8, 2), r);
            }
            for (int i = 0; i < 2; i++) due.is("row(0, 2), the 41st", x.row(0, 2), FULL);
            due.is("row(0, 0)", x.row(0, 0), FULL);
            due.is("row(0, -1): FULL ahead of the code", x.row(0, -1), FULL);
            due.is("row(8, 0): BAD ahead of FULL", x.row(8, 0), BAD);
            due.is("row(0, 17): BAD ahead of FULL", x.row(0, 17), BAD);
            due.is("count(3)", x.count(3), 40);
            due.is("size(39)", x.size(39), 2);
            due.is("size(40)", x.size(40), BAD);
            x.build();
        }
    }

    private static void rowsOfLoadsAreNotCounted() {
        due.promise(15, "FULL: 40 were made by row() in this BUILD");
        FamilyFields x = new FamilyFields();
        x.record();
        for (int p = 0; p < 6; p++) x.part(0, 'a' + p, 10, p, 0);
        for (int p = 0; p < 6; p++) x.give(p, x.row(p, 16));
        for (int i = 0; i < 64; i++) x.keep(x.make(0));
        x.build();
        for (int r = 0; r < 39; r++) x.row(0, 1);
        for (int l = 0; l < 64; l++) due.is("load(" + l + ")", x.load(l), l);
        due.is("all ROWS that LINES can have", x.count(3), 39 + 384);
        due.is("row(0, 1), the 40th", x.row(0, 1), 423);
        due.is("row(0, 1), the 41st", x.row(0, 1), FULL);
        due.is("told(63, 5), the last ROW that was LOADED", x.told(63, 5), 422);
        due.is("size(422)", x.size(422), 16);
        due.is("put(422, 15, 9)", x.put(422, 15, 9), 1);
        due.is("item(422, 15)", x.item(422, 15), 9);
        due.is("size(423)", x.size(423), 1);
        due.is("size(424)", x.size(424), BAD);
    }

    private static void puts() {
        due.promise(16, "BAD: the ROW; -15: it has no such ITEM.");
        FamilyFields x = new FamilyFields();
        due.is("put(0, 0, 1) of no ROW", x.put(0, 0, 1), BAD);
        x.row(4, 0);
        x.row(4, 1);
        x.row(4, 16);
        for (int r : new int[] {-1, 3, LEAST, MOST}) {
            for (int i : new int[] {0, -1, 16}) due.is("put(" + r + ", " + i + ", 1)", x.put(r, i, 1), BAD);
        }
        int[] sizes = {0, 1, 16};
        for (int r = 0; r < 3; r++) {
            for (int i : new int[] {-1, sizes[r], sizes[r] + 1, 16, 17, LEAST, MOST}) {
                due.is("put(" + r + ", " + i + ", 1)", x.put(r, i, 1), -15);
            }
        }
        for (int r = 0; r < 3; r++) {
            for (int i = 0; i < 16; i++) due.is("item(" + r + ", " + i + ")", x.item(r, i), 0);
        }
        due.is("no CAUSE came of that", x.cause(0), 0);
        due.promise(16, "An ITEM by BITS: 1.");
        due.is("put(1, 0, 7)", x.put(1, 0, 7), 1);
        for (int i = 0; i < 16; i++) due.is("put(2, " + i + ", ..)", x.put(2, i, 100 + i), 1);
        due.is("put(2, 3, 0)", x.put(2, 3, 0), 1);
        due.is("item(1, 0)", x.item(1, 0), 7);
        for (int i = 0; i < 16; i++) due.is("item(2, " + i + ")", x.item(2, i), i == 3 ? 0 : 100 + i);
    }

    private static void itemsByBits() {
        due.term("From BITS: of 0 whether they are not 0; of 1 to 7 as many of the lowest ones as it has; of 8 to 11 as told.");
        long[][] given = {
            {0, 0, 0}, {0, 1, 1}, {0, 2, 1}, {0, -1, 1}, {0, 1L << 32, 1}, {0, Long.MIN_VALUE, 1},
            {1, 127, 127}, {1, 128, -128}, {1, 255, -1}, {1, 256, 0}, {1, -128, -128}, {1, -129, 127}, {1, 1L << 63, 0},
            {2, 32767, 32767}, {2, 32768, -32768}, {2, 65535, -1}, {2, 65536, 0}, {2, -32768, -32768}, {2, -32769, 32767},
            {3, 65535, 65535}, {3, 65536, 0}, {3, -1, 65535}, {3, 32768, 32768}, {3, 1L << 63, 0},
            {4, MOST, MOST}, {4, MOST + 1L, LEAST}, {4, LEAST, LEAST}, {4, LEAST - 1L, MOST}, {4, 1L << 32, 0},
            {5, Long.MAX_VALUE, Long.MAX_VALUE}, {5, Long.MIN_VALUE, Long.MIN_VALUE}, {5, -1, -1},
            {6, 1L << 32, 0}, {6, 1L << 31, LEAST}, {6, MOST, 0x7fc00000}, {6, (1L << 32) + 1, 1}, {6, -1L << 31, LEAST},
            {7, Long.MIN_VALUE, Long.MIN_VALUE}, {7, 1, 1},
        };
        putAndAsk(given);
        due.term("of 6 its 32 bits (as an int), of 7 its 64 (of what is no number 0x7fc00000, 0x7ff8000000000000)");
        long[][] floats = {
            {6, 0x7f7fffffL, 0x7f7fffff}, {6, 0x7f800000L, 0x7f800000}, {6, 0x7f800001L, 0x7fc00000},
            {6, 0x7fbfffffL, 0x7fc00000}, {6, 0x7fc00000L, 0x7fc00000}, {6, 0x7fffffffL, 0x7fc00000},
            {6, 0xff7fffffL, (int) 0xff7fffffL}, {6, 0xff800000L, (int) 0xff800000L}, {6, 0xff800001L, 0x7fc00000},
            {6, 0xffc00000L, 0x7fc00000}, {6, 0xffffffffL, 0x7fc00000}, {6, 0x1_7f800001L, 0x7fc00000},
            {7, 0x7fefffffffffffffL, 0x7fefffffffffffffL}, {7, 0x7ff0000000000000L, 0x7ff0000000000000L},
            {7, 0x7ff0000000000001L, 0x7ff8000000000000L}, {7, 0x7ff8000000000000L, 0x7ff8000000000000L},
            {7, 0x7fffffffffffffffL, 0x7ff8000000000000L}, {7, 0xffefffffffffffffL, 0xffefffffffffffffL},
            {7, 0xfff0000000000000L, 0xfff0000000000000L}, {7, 0xfff0000000000001L, 0x7ff8000000000000L},
            {7, -1, 0x7ff8000000000000L}, {7, 0x7fc00000L, 0x7fc00000L},
        };
        putAndAsk(floats);
    }

    private static void putAndAsk(long[][] given) {
        FamilyFields x = new FamilyFields();
        for (int lane = 0; lane < 8; lane++) x.row(lane, 3);
        for (long[] g : given) {
            int lane = (int) g[0];
            due.is("put(" + lane + ", 1, " + g[1] + ")", x.put(lane, 1, g[1]), 1);
            due.is("item of LANE " + lane + " by " + g[1], x.item(lane, 1), g[2]);
            due.is("the ITEM before it", x.item(lane, 0), 0);
            due.is("the ITEM behind it", x.item(lane, 2), 0);
        }
    }

    private static void items() {
        due.promise(17, "BITS of an ITEM; 0: there is none.");
        FamilyFields x = new FamilyFields();
        due.is("item(0, 0) of no ROW", x.item(0, 0), 0);
        x.row(5, 0);
        x.row(5, 2);
        x.row(5, 16);
        for (int i = 0; i < 2; i++) x.put(1, i, -7);
        for (int i = 0; i < 16; i++) x.put(2, i, Long.MIN_VALUE);
        due.is("item(1, 0)", x.item(1, 0), -7);
        due.is("item(1, 1)", x.item(1, 1), -7);
        due.is("item(2, 0)", x.item(2, 0), Long.MIN_VALUE);
        due.is("item(2, 15)", x.item(2, 15), Long.MIN_VALUE);
        int[][] none = {{0, 0}, {1, 2}, {1, -1}, {1, LEAST}, {1, MOST}, {2, 16}, {2, -1}, {3, 0}, {-1, 0}, {LEAST, 0},
            {MOST, 0}, {-1, -1}};
        for (int[] n : none) due.is("item(" + n[0] + ", " + n[1] + ")", x.item(n[0], n[1]), 0);
        x.build();
        due.is("item(2, 0) in the next BUILD", x.item(2, 0), 0);
        x.row(5, 1);
        x.row(5, 1);
        due.is("item(1, 1) of a shorter ROW", x.item(1, 1), 0);
        due.is("put(1, 1, 5) of a shorter ROW", x.put(1, 1, 5), -15);
        due.is("item(1, 1) then", x.item(1, 1), 0);
    }

    private static void sizes() {
        due.promise(18, "How many ITEMS a ROW has. BAD.");
        FamilyFields x = new FamilyFields();
        due.is("size(0) of no ROW", x.size(0), BAD);
        for (int n = 0; n <= 16; n++) x.row(n % 8, n);
        for (int n = 0; n <= 16; n++) due.is("size(" + n + ")", x.size(n), n);
        for (int r : new int[] {-1, 17, LEAST, MOST}) due.is("size(" + r + ")", x.size(r), BAD);
    }
}
