/** Promises 15 to 18. */
public final class RowsTest {
    private static final Due due = new Due();

    public static void main(String[] args) {
        rowsAreNumbered();
        wrongRows();
        rowsEndAtForty();
        itemsByLane();
        itemsThatAreNot();
        rowsGoWithABuild();
        due.end();
    }

    private static void rowsAreNumbered() {
        FamilyFields x = new FamilyFields();
        due.is("row(0, 0)", x.row(0, 0), 0);
        due.is("row(7, 16)", x.row(7, 16), 1);
        due.is("size(0)", x.size(0), 0);
        due.is("size(1)", x.size(1), 16);
        due.is("count(3)", x.count(3), 2);
        for (int i = 0; i < 16; i++) due.is("item(1, i) at first", x.item(1, i), 0);
    }

    private static void wrongRows() {
        FamilyFields x = new FamilyFields();
        due.is("row(-1, 1)", x.row(-1, 1), FamilyFields.BAD);
        due.is("row(8, 1)", x.row(8, 1), FamilyFields.BAD);
        due.is("row(8, -1)", x.row(8, -1), FamilyFields.BAD);
        due.is("row(4, 17)", x.row(4, 17), FamilyFields.BAD);
        due.is("row(4, greatest)", x.row(4, Integer.MAX_VALUE), FamilyFields.BAD);
        due.is("row(4, -1)", x.row(4, -1), -14);
        due.is("row(4, least)", x.row(4, Integer.MIN_VALUE), -14);
        due.is("count(3)", x.count(3), 0);
        due.is("cause(0) after row() alone", x.cause(0), 0);
        due.is("size(0)", x.size(0), FamilyFields.BAD);
        due.is("size(-1)", x.size(-1), FamilyFields.BAD);
    }

    private static void rowsEndAtForty() {
        FamilyFields x = new FamilyFields();
        for (int i = 0; i < 40; i++) {
            due.is("row(4, -1) does not count", x.row(4, -1), -14);
            due.is("row(4, 1)", x.row(4, 1), i);
        }
        due.is("row(4, 1) once more", x.row(4, 1), FamilyFields.FULL);
        due.is("row(4, -1), FULL ahead of the code", x.row(4, -1), FamilyFields.FULL);
        due.is("row(9, 1), BAD ahead of FULL", x.row(9, 1), FamilyFields.BAD);
        due.is("row(4, 17), BAD ahead of FULL", x.row(4, 17), FamilyFields.BAD);
        x.build();
        due.is("row(4, 1) in the next build", x.row(4, 1), 0);
    }

    private static void itemsByLane() {
        FamilyFields x = new FamilyFields();
        for (int lane = 0; lane < 8; lane++) x.row(lane, 2);
        long[][] given = {
            {0, 0, 0}, {0, 256, 1}, {0, -1, 1}, {0, Long.MIN_VALUE, 1},
            {1, 200, -56}, {1, 127, 127}, {1, 0x180, -128}, {1, -129, 127},
            {2, 0x18000, -32768}, {2, -1, -1}, {2, 40000, -25536},
            {3, -1, 65535}, {3, 65536, 0}, {3, 40000, 40000},
            {4, 1L << 31, Integer.MIN_VALUE}, {4, 1L << 32, 0}, {4, -5, -5},
            {5, Long.MIN_VALUE, Long.MIN_VALUE}, {5, 1L << 40, 1L << 40},
            {6, 0x7f800001L, 0x7fc00000}, {6, 0xffc00001L, 0x7fc00000}, {6, 0x80000000L, Integer.MIN_VALUE},
            {6, 0x7f800000L, 0x7f800000}, {6, 0xff800000L, (int) 0xff800000L}, {6, 0x100000001L, 1},
            {7, 0x7ff0000000000001L, 0x7ff8000000000000L}, {7, -1L, 0x7ff8000000000000L},
            {7, Long.MIN_VALUE, Long.MIN_VALUE}, {7, 0x7ff0000000000000L, 0x7ff0000000000000L},
            {7, 0xfff0000000000000L, 0xfff0000000000000L},
        };
        for (long[] g : given) {
            int lane = (int) g[0];
            due.is("put(" + lane + ", 1, " + g[1] + ")", x.put(lane, 1, g[1]), 1);
            due.is("item of lane " + lane + " by " + g[1], x.item(lane, 1), g[2]);
            due.is("the item beside it", x.item(lane, 0), 0);
        }
    }

    private static void itemsThatAreNot() {
        FamilyFields x = new FamilyFields();
        x.row(4, 2);
        due.is("put(1, 0, 5)", x.put(1, 0, 5), FamilyFields.BAD);
        due.is("put(-1, 0, 5)", x.put(-1, 0, 5), FamilyFields.BAD);
        due.is("put(0, 2, 5)", x.put(0, 2, 5), -15);
        due.is("put(0, -1, 5)", x.put(0, -1, 5), -15);
        due.is("put(0, least, 5)", x.put(0, Integer.MIN_VALUE, 5), -15);
        due.is("item(0, 2)", x.item(0, 2), 0);
        due.is("item(0, -1)", x.item(0, -1), 0);
        due.is("item(1, 0)", x.item(1, 0), 0);
        due.is("item(-1, 0)", x.item(-1, 0), 0);
        due.is("cause(0) after put() alone", x.cause(0), 0);
    }

    private static void rowsGoWithABuild() {
        FamilyFields x = new FamilyFields();
        x.row(4, 3);
        x.put(0, 1, 9);
        x.build();
        due.is("count(3)", x.count(3), 0);
        due.is("size(0)", x.size(0), FamilyFields.BAD);
        due.is("row(5, 3)", x.row(5, 3), 0);
        due.is("item(0, 1) of a new row", x.item(0, 1), 0);
        due.is("put(0, 0, 2^40): the new lane", x.put(0, 0, 1L << 40), 1);
        due.is("item(0, 0)", x.item(0, 0), 1L << 40);
    }
}
