/** Promises 26 to 28 at their edges; each test quotes the sentence to which it holds the class. */
public final class ConstantsEdgesTest {
    private static final int NONE = FamilyFields.NONE, BAD = FamilyFields.BAD;
    private static final int LEAST = Integer.MIN_VALUE, MOST = Integer.MAX_VALUE;
    private static final long LEAST_LONG = Long.MIN_VALUE;
    private static final Due due = new Due();

    public static void main(String[] args) {
        ordinalsAndBodies();
        names();
        namesThatAreNot();
        namesOfWhatFails();
        bodies();
        bodiesGoRound();
        workIsBad();
        workOfWhatFails();
        starts();
        startsThatAreNot();
        due.end();
    }

    private static void ordinalsAndBodies() {
        due.term("a CONSTANT is told by its ORDINAL, from 0 on; it may be BODIED.");
        for (int bodied = 0; bodied < 256; bodied++) {
            FamilyFields x = new FamilyFields();
            x.enumeration();
            for (int c = 0; c < 8; c++) due.is("constant", x.constant(0, 'a' + c, (bodied >> c & 1) == 1), c);
            for (int c = 0; c < 8; c++) {
                due.is("named(0, " + (char) ('a' + c) + ")", x.named(0, 'a' + c), c);
                due.is("ONCE by " + c + " of " + bodied, x.work(0, c, 0, 100), once((bodied >> c & 1) == 1, c, 100));
            }
        }
    }

    private static void names() {
        due.promise(26, "The ORDINAL of a NAME: the ENUMERATION STARTS.");
        FamilyFields x = Worlds.withConstants(8);
        x.enumeration();
        x.constant(1, 'h', false);
        for (int c = 0; c < 8; c++) due.is("named(0, " + (char) ('a' + c) + ")", x.named(0, 'a' + c), c);
        due.is("named(1, h), of another one", x.named(1, 'h'), 0);
        due.is("started(0)", x.started(0), 10);
        due.is("started(1)", x.started(1), 11);
        due.is("started(2)", x.started(2), NONE);
        x.enumeration();
        x.constant(2, Due.name("abcdefgh"), false);
        x.constant(2, Due.name("abcdefg"), false);
        due.is("a NAME of 8 bytes", x.named(2, Due.name("abcdefgh")), 0);
        due.is("a NAME of 7 bytes", x.named(2, Due.name("abcdefg")), 1);
    }

    private static void namesThatAreNot() {
        due.promise(26, "BAD: the ENUMERATION; -19, -20; -18: there is none of that NAME.");
        FamilyFields x = new FamilyFields();
        due.is("named(0, a) of none", x.named(0, 'a'), BAD);
        x = Worlds.withConstants(8);
        x.forget(0, 7);
        x.enumeration();
        for (int e : new int[] {-1, 2, LEAST, MOST}) due.is("named(" + e + ", a)", x.named(e, 'a'), BAD);
        due.is("nobody STARTED by that", x.started(0), NONE);
        due.is("named(1, a) of an empty one", x.named(1, 'a'), -18);
        due.is("it STARTED all the same", x.started(0), 11);
        due.is("named(0, h), which has gone", x.named(0, 'h'), -18);
        for (long name : new long[] {0, -1, 'i', Due.name("aa"), 'a' << 8, 'a' | 1L << 32, LEAST_LONG | 'a'}) {
            due.is("named(0, " + name + ")", x.named(0, name), -18);
        }
    }

    private static void namesOfWhatFails() {
        due.term("TO START: nothing, if it has STARTED. An ENUMERATION that was told to fail does so: 9 INIT, and from then on"
            + " 10 NOT at each START; a RECORD does not.");
        FamilyFields x = Worlds.withConstants(1);
        x.fails(0, true);
        due.is("named(0, z): INIT ahead of -18", x.named(0, 'z'), -19);
        due.is("named(0, a): NOT", x.named(0, 'a'), -20);
        due.is("named(0, z): NOT ahead of -18", x.named(0, 'z'), -20);
        due.is("work: NOT", x.work(0, 0, 0, 1), LEAST_LONG + 10);
        x.fails(0, false);
        due.is("named(0, a): NOT from then on", x.named(0, 'a'), -20);
        due.is("nobody STARTED", x.started(0), NONE);
        x.build();
        due.is("named(0, a) in the next BUILD", x.named(0, 'a'), 0);
        x.fails(0, true);
        for (int i = 0; i < 2; i++) due.is("named(0, a): it has STARTED", x.named(0, 'a'), 0);
        x.build();
        due.is("named(0, a): INIT", x.named(0, 'a'), -19);
        x.build();
        due.is("named(0, a): INIT once a BUILD", x.named(0, 'a'), -19);
        due.is("no CAUSE came of that", x.cause(0), 0);
    }

    private static int once(boolean bodied, int ordinal, int n) {
        return bodied ? 3 * (n + ordinal) - 1 : n + ordinal;
    }

    private static int twice(boolean bodied, int ordinal, int n) {
        int first = once(bodied, ordinal, n);
        return bodied && ordinal % 2 == 1 ? n - first : once(bodied, ordinal, first);
    }

    private static void bodies() {
        due.promise(27, "A BODY of a CONSTANT with n, way 0 ONCE, 1 TWICE, 2 PLAIN; the ENUMERATION STARTS.");
        int[] numbers = {0, 1, -1, 7, -8, 1000};
        for (int way = 0; way < 3; way++) {
            FamilyFields x = bothKinds();
            due.is("started(0) before", x.started(0), NONE);
            for (int c = 0; c < 8; c++) {
                for (int n : numbers) ask(x, c, way, n);
            }
            due.is("started(0)", x.started(0), 10);
            due.is("started(1)", x.started(1), 11);
        }
        due.term("ONCE: n and its ORDINAL; of a BODIED one that three times, less 1. TWICE: ONCE of ONCE; of a BODIED one with"
            + " odd ORDINAL: n less ONCE. PLAIN: n and its ORDINAL.");
        FamilyFields x = bothKinds();
        due.is("ONCE by one of ORDINAL 7", x.work(0, 7, 0, 10), 17);
        due.is("ONCE by a BODIED one of ORDINAL 0", x.work(1, 0, 0, 10), 29);
        due.is("ONCE by a BODIED one of ORDINAL 1", x.work(1, 1, 0, 10), 32);
        due.is("TWICE by a BODIED one of ORDINAL 1", x.work(1, 1, 1, 10), -22);
        due.is("TWICE by a BODIED one of ORDINAL 2", x.work(1, 2, 1, 10), 110);
        due.is("TWICE by a BODIED one of ORDINAL 0", x.work(1, 0, 1, 10), 86);
        due.is("TWICE by one of ORDINAL 1", x.work(0, 1, 1, 10), 12);
        due.is("PLAIN by a BODIED one of ORDINAL 7", x.work(1, 7, 2, 10), 17);
    }

    /** Enumeration 0 with eight constants without bodies, 1 with eight bodied ones. */
    private static FamilyFields bothKinds() {
        FamilyFields x = new FamilyFields();
        for (int e = 0; e < 2; e++) {
            x.enumeration();
            for (int c = 0; c < 8; c++) x.constant(e, 'a' + c, e == 1);
        }
        return x;
    }

    private static void ask(FamilyFields x, int c, int way, int n) {
        for (int e = 0; e < 2; e++) {
            long answer = way == 0 ? once(e == 1, c, n) : way == 1 ? twice(e == 1, c, n) : n + c;
            due.is("work(" + e + ", " + c + ", " + way + ", " + n + ")", x.work(e, c, way, n), answer);
        }
    }

    private static void bodiesGoRound() {
        due.term("BODIES of CONSTANTS, of a number n (ints, going round)");
        FamilyFields x = bothKinds();
        int third = MOST / 3;
        for (int n : new int[] {MOST, MOST - 6, MOST - 7, LEAST, LEAST + 1, third - 1, third, third + 1, -third, -third - 2, MOST / 9 + 1}) {
            for (int way = 0; way < 3; way++) {
                for (int c = 0; c < 8; c++) ask(x, c, way, n);
            }
        }
        due.is("PLAIN of the greatest, by 1", x.work(0, 1, 2, MOST), LEAST);
        due.is("ONCE of the greatest, by 7", x.work(0, 7, 0, MOST), LEAST + 6L);
        due.is("ONCE of the greatest, by a BODIED 0", x.work(1, 0, 0, MOST), MOST - 3L);
        due.is("ONCE of the least, by a BODIED 0", x.work(1, 0, 0, LEAST), MOST);
        due.is("TWICE of the greatest, by a BODIED 1", x.work(1, 1, 1, MOST), 0L);
        due.is("TWICE of the least, by a BODIED 1", x.work(1, 1, 1, LEAST), -2L);
    }

    private static void workIsBad() {
        due.promise(27, "The least long: BAD (ENUMERATION, CONSTANT, way)");
        FamilyFields x = new FamilyFields();
        due.is("work(0, 0, 0, 1) of none", x.work(0, 0, 0, 1), LEAST_LONG);
        x = Worlds.withConstants(3);
        x.enumeration();
        x.fails(0, true);
        x.fails(1, true);
        for (int e : new int[] {-1, 2, LEAST, MOST}) due.is("work(" + e + ", 0, 0, 1)", x.work(e, 0, 0, 1), LEAST_LONG);
        for (int c : new int[] {-1, 3, LEAST, MOST}) due.is("work(0, " + c + ", 0, 1)", x.work(0, c, 0, 1), LEAST_LONG);
        for (int w : new int[] {-1, 3, LEAST, MOST}) due.is("work(0, 0, " + w + ", 1)", x.work(0, 0, w, 1), LEAST_LONG);
        due.is("work(1, 0, 0, 1) of an empty one", x.work(1, 0, 0, 1), LEAST_LONG);
        due.is("none of these was a START", x.named(0, 'a'), -19);
        due.is("none of these was a START", x.named(1, 'a'), -19);
    }

    private static void workOfWhatFails() {
        due.promise(27, "that and 9, 10: it failed by this code.");
        for (int way = 0; way < 3; way++) {
            FamilyFields x = Worlds.withConstants(3);
            x.fails(0, true);
            due.is("INIT", x.work(0, 2, way, 1), LEAST_LONG + 9);
            for (int i = 0; i < 2; i++) due.is("NOT", x.work(0, i, way, 1), LEAST_LONG + 10);
            due.is("BAD ahead of NOT", x.work(0, 3, way, 1), LEAST_LONG);
            due.is("nobody STARTED", x.started(0), NONE);
            due.is("no CAUSE came of that", x.cause(0), 0);
            x.build();
            due.is("INIT in the next BUILD", x.work(0, 2, way, 1), LEAST_LONG + 9);
        }
    }

    private static void starts() {
        due.promise(28, "Who STARTED as the i-th in this BUILD, from 0 on: a RECORD its number, an ENUMERATION 10 and its number; NONE.");
        FamilyFields x = new FamilyFields();
        for (int e = 0; e < 4; e++) x.enumeration();
        for (int e = 0; e < 4; e++) x.constant(e, 'a', false);
        for (int r = 0; r < 6; r++) x.record();
        int[] order = {13, 5, 10, 0, 12, 3, 11, 1, 4, 2};
        for (int build = 0; build < 2; build++) {
            for (int i = 0; i < 10; i++) {
                due.is("started(" + i + ") before", x.started(i), NONE);
                startOne(x, order[i], build);
                startOne(x, order[i], build);
                due.is("started(" + i + ")", x.started(i), order[i]);
            }
            for (int i = 0; i < 10; i++) due.is("started(" + i + ") then", x.started(i), order[i]);
            for (int i : new int[] {-1, 10, LEAST, MOST}) due.is("started(" + i + ")", x.started(i), NONE);
            x.build();
            for (int i = 0; i < 10; i++) due.is("started(" + i + ") in the next BUILD", x.started(i), NONE);
        }
    }

    private static void startOne(FamilyFields x, int who, int way) {
        if (who < 10) x.make(who);
        else if (way == 0) x.named(who - 10, 'a');
        else x.work(who - 10, 0, 0, 0);
    }

    private static void startsThatAreNot() {
        FamilyFields x = Worlds.small();
        x.constant(0, 'c', false);
        x.exchange(0, 0, 1);
        x.forget(0, 0);
        x.row(4, 1);
        x.make(2);
        x.named(1, 'a');
        x.work(0, 9, 0, 0);
        due.is("started(0) after other calls", x.started(0), NONE);
        x.make(0);
        x.keep(0);
        x.told(0, 0);
        x.word('a', 'a', -1);
        x.range('a', 0, 0, 9, -1);
        due.is("started(1) after other calls", x.started(1), NONE);
        x.build();
        due.is("load(0)", x.load(0), 0);
        due.is("started(0) by load()", x.started(0), 0);
        due.is("started(1)", x.started(1), NONE);
    }
}
