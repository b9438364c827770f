/** Objects of the class in the states that the tests of edges begin with. */
final class Worlds {
    private Worlds() {}

    /** Enumeration 0 with n constants a, b, .., of which those with odd ordinals are bodied. */
    static FamilyFields withConstants(int n) {
        FamilyFields x = new FamilyFields();
        x.enumeration();
        for (int c = 0; c < n; c++) x.constant(0, 'a' + c, c % 2 == 1);
        return x;
    }

    /** Enumeration 0 with a, b; record 0 with an int a that must not be 0, record 1 without parts; family 0 of record 0. */
    static FamilyFields small() {
        FamilyFields x = withConstants(2);
        x.record();
        x.record();
        x.family();
        x.permit(0, false, 0);
        x.part(0, 'a', 4, 0, 0);
        x.check(0, 0, 2, 0, 0);
        x.give(0, 1);
        return x;
    }

    /** Record 0 alone, with one part a of a sort, of enumeration 0 (constants a, b, c; b is bodied), lane or family 0. */
    static FamilyFields withPart(int sort, int of) {
        FamilyFields x = withConstants(3);
        x.family();
        x.record();
        x.part(0, 'a', sort, of, 0);
        return x;
    }

    /** All types there can be, each with all that it can have. */
    static FamilyFields full() {
        FamilyFields x = new FamilyFields();
        fill(x);
        return x;
    }

    static void fill(FamilyFields x) {
        for (int e = 0; e < 4; e++) {
            x.enumeration();
            for (int c = 0; c < 8; c++) x.constant(e, 'a' + (c + e) % 8, (c + e) % 3 == 1);
        }
        for (int f = 0; f < 3; f++) x.family();
        for (int r = 0; r < 6; r++) x.record();
        int[][] members = {{0, 0, 1}, {0, 0, 2}, {0, 0, 3}, {0, 0, 4}, {1, 1, 0}, {1, 0, 5}, {1, 0, 0}, {1, 0, 2},
            {2, 0, 5}, {2, 1, 1}, {2, 1, 0}, {2, 0, 3}};
        for (int[] m : members) x.permit(m[0], m[1] == 1, m[2]);
        int[][] sorts = {{0, 1, 2, 3, 4, 5}, {6, 7, 8, 9, 10, 11}, {4, 8, 10, 11, 9, 5}, {11, 11, 11, 4, 8, 9},
            {1, 2, 3, 4, 6, 7}, {5, 5, 5, 5, 5, 5}};
        for (int r = 0; r < 6; r++) {
            for (int p = 0; p < 6; p++) x.part(r, 'a' + (p + r) % 8, sorts[r][p], p % 3, 5 * r + p);
        }
        int[][] checks = {{0, 4, 0}, {0, 5, 0}, {0, 1, 3}, {0, 4, 2}, {1, 2, 6}, {1, 5, 5}, {1, 4, 4}, {1, 0, 0},
            {2, 1, 6}, {2, 3, 1}, {2, 2, 1}, {2, 0, 2}, {3, 4, 1}, {3, 3, 3}, {3, 0, 5}, {3, 3, 2},
            {4, 0, 0}, {4, 1, 0}, {4, 4, 0}, {4, 5, 0}, {5, 0, 0}, {5, 1, 0}, {5, 2, 0}, {5, 3, 0}};
        for (int[] c : checks) x.check(c[0], c[1], c[2], c[2] == 5 ? 2 : c[2] == 4 ? 1 : -1000, 1000);
    }

    static int make(FamilyFields x, int record, long... bits) {
        for (int k = 0; k < bits.length; k++) x.give(k, bits[k]);
        return x.make(record);
    }
}
