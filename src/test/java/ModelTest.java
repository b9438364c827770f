import java.util.ArrayList;
import java.util.List;
import java.util.Random;

/** Promises 1 to 35 at once: long runs of calls by fixed seeds, each answer compared with the plain model's. */
public final class ModelTest {
    private static final int RUNS = 20000, CALLS = 512;
    private static final long[] ODD_NAMES = {0, -1, 'a' << 8, 'A', 'a' | 'b' << 16, 96, 123, Long.MIN_VALUE | 'a'};
    private static final long[] EDGES = {
        0, 1, -1, 2, -2, 7, -7, 8, -8, 127, 128, -129, 255, 32767, 32768, 65535, 65536, 16777217, 33554435,
        Integer.MAX_VALUE, Integer.MIN_VALUE, 1L << 32, (1L << 53) + 1, -(1L << 53) - 1, Long.MAX_VALUE, Long.MIN_VALUE,
        0x7fc00000L, 0x7f800000L, 0xff800000L, 0x7f800001L, 0x3fc00000L, 0xc0400000L, 0x80000000L,
        0x7ff8000000000000L, 0x7ff0000000000000L, 0xfff0000000000000L, 0x7ff0000000000001L, 0x4008000000000000L};

    private final Random random;
    private final FamilyFields x = new FamilyFields();
    private final PlainModel m = new PlainModel();
    private final List<String> told = new ArrayList<>();
    private boolean wrong;
    private long answer;
    /** How eagerly types are changed once there are some. */
    private final int calm;
    /** Some runs come to the limits of rows, objects and lines. */
    private final boolean crowded;

    private ModelTest(long seed) {
        random = new Random(seed);
        calm = random.nextInt(3);
        crowded = seed % 4 == 0;
    }

    public static void main(String[] args) {
        int bad = 0;
        int runs = args.length > 0 ? Integer.parseInt(args[0]) : RUNS;
        for (int seed = 0; seed < runs && bad < 5; seed++) {
            ModelTest test = new ModelTest(seed);
            if (!test.run()) {
                bad++;
                System.out.println("seed " + seed + ", after " + test.told.size() + " calls:");
                test.told.subList(Math.max(0, test.told.size() - 30), test.told.size()).forEach(System.out::println);
            }
        }
        System.out.println(bad == 0 ? runs + " runs are as due" : bad + " runs are not as due");
        if (bad != 0) System.exit(1);
    }

    private boolean run() {
        outline();
        while (told.size() < CALLS && !wrong) step();
        return !wrong;
    }

    private void same(String call, long got, long due) {
        answer = got;
        told.add(call + " = " + got);
        if (got == due) return;
        told.add("  due is " + due);
        wrong = true;
    }

    private int any(int n) { return random.nextInt(20) == 0 ? random.nextInt(n + 4) - 2 : random.nextInt(n); }
    private int below(int n) { return any(Math.max(1, n)); }
    private boolean coin() { return random.nextBoolean(); }
    private long edge() { return random.nextInt(3) == 0 ? random.nextInt(20) - 10 : random.nextInt(8) == 0 ? random.nextLong() : EDGES[random.nextInt(EDGES.length)]; }

    private long name() {
        if (random.nextInt(40) == 0) return ODD_NAMES[random.nextInt(ODD_NAMES.length)];
        if (random.nextInt(10) == 0) return 0x7a7a7a7a7a7a7a61L;
        return 'a' + random.nextInt(9);
    }

    private void outline() {
        for (int i = 1 + random.nextInt(3); i > 0; i--) addEnumeration();
        for (int i = 2 + random.nextInt(20); i > 0; i--) addConstant();
        for (int i = 1 + random.nextInt(3); i > 0; i--) addFamily();
        for (int i = 1 + random.nextInt(4); i > 0; i--) addRecord();
        for (int i = 2 + random.nextInt(8); i > 0; i--) addMember();
        for (int i = 3 + random.nextInt(24); i > 0; i--) addPart();
        for (int i = random.nextInt(6); i > 0; i--) addCheck();
    }

    private void step() {
        int kind = random.nextInt(100);
        if (crowded && random.nextInt(20) == 0) crowd();
        else if (kind < (crowded ? 2 : 4)) newBuild();
        else if (kind < 24 - 8 * calm) changeTypes();
        else if (kind < 34) useRows();
        else if (kind < 60) makeOne();
        else if (kind < 70) askObjects();
        else if (kind < 78) useConstants();
        else if (kind < 92) useTable();
        else askCounts();
    }

    private void newBuild() {
        same("build()", x.build(), m.build());
        for (int i = random.nextInt(4); i > 0; i--) changeTypes();
        for (int i = random.nextInt(4); i > 0; i--) loadOne();
    }

    private void crowd() {
        int lane = any(8), n = any(17), r = below(m.count(1));
        switch (random.nextInt(3)) {
            case 0:
                for (int i = 0; i < 21; i++) same("row(" + lane + ", " + n + ")", x.row(lane, n), m.row(lane, n));
                break;
            case 1:
                makeOne();
                for (int i = 0; i < 51 && answer >= 0; i++) same("make(" + r + ")", x.make(r), m.make(r));
                break;
            default:
                for (int o = m.count(4) - 1; o >= 0; o -= 1 + random.nextInt(3)) same("keep(" + o + ")", x.keep(o), m.keep(o));
        }
    }

    private void addEnumeration() { same("enumeration()", x.enumeration(), m.enumeration()); }
    private void addFamily() { same("family()", x.family(), m.family()); }
    private void addRecord() { same("record()", x.record(), m.record()); }

    private void addConstant() {
        int e = below(m.count(0));
        long name = name();
        boolean bodied = coin();
        same("constant(" + e + ", " + name + ", " + bodied + ")", x.constant(e, name, bodied), m.constant(e, name, bodied));
    }

    private void addMember() {
        int f = below(m.count(2));
        boolean is = random.nextInt(3) == 0;
        int member = below(is ? 3 : m.count(1));
        same("permit(" + f + ", " + is + ", " + member + ")", x.permit(f, is, member), m.permit(f, is, member));
    }

    private int ofFor(int sort) { return sort < 8 ? any(8) : sort < 10 ? below(m.count(0)) : sort == 10 ? any(8) : below(m.count(2)); }
    private int sort() { return coin() ? any(12) : 8 + random.nextInt(4); }

    private void addPart() {
        int r = below(m.count(1)), sort = sort(), of = ofFor(sort);
        long name = name(), standard = edge();
        String call = "part(" + r + ", " + name + ", " + sort + ", " + of + ", " + standard + ")";
        same(call, x.part(r, name, sort, of, standard), m.part(r, name, sort, of, standard));
    }

    private void addCheck() {
        int r = below(m.count(1)), p = below(m.about(r, 1));
        boolean wide = coin();
        long a = wide ? edge() : random.nextInt(6) - 3, b = wide ? edge() : random.nextInt(100);
        int kind = any(7);
        for (int i = 0; i < 7; i++) {
            String call = "check(" + r + ", " + p + ", " + kind + ", " + a + ", " + b + ")";
            same(call, x.check(r, p, kind, a, b), m.check(r, p, kind, a, b));
            if (answer != -1) return;
            kind = (kind + 8) % 7;
        }
    }

    private void changeTypes() {
        int e = below(m.count(0)), r = below(m.count(1));
        int a = below(m.about(e, 0)), b = below(m.about(e, 0)), p = below(m.about(r, 1));
        boolean is = random.nextInt(4) == 0;
        switch (random.nextInt(12)) {
            case 0: addEnumeration(); break;
            case 1: addConstant(); break;
            case 2: same("exchange(" + e + ", " + a + ", " + b + ")", x.exchange(e, a, b), m.exchange(e, a, b)); break;
            case 3: same("forget(" + e + ", " + a + ")", x.forget(e, a), m.forget(e, a)); break;
            case 4: same("fails(" + e + ", " + is + ")", x.fails(e, is), m.fails(e, is)); break;
            case 5: addFamily(); break;
            case 6: addMember(); break;
            case 7: addRecord(); break;
            case 8: addPart(); break;
            case 9: same("without(" + r + ", " + p + ")", x.without(r, p), m.without(r, p)); break;
            case 10: {
                int sort = sort(), of = ofFor(sort);
                same("becomes(" + r + ", " + p + ", " + sort + ", " + of + ")", x.becomes(r, p, sort, of), m.becomes(r, p, sort, of));
                break;
            }
            default: addCheck();
        }
    }

    private void useRows() {
        int r = below(m.count(3)), i = below(m.size(r)), lane = any(8), n = any(17);
        long bits = edge();
        switch (random.nextInt(6)) {
            case 0: case 1: same("row(" + lane + ", " + n + ")", x.row(lane, n), m.row(lane, n)); break;
            case 2: case 3: same("put(" + r + ", " + i + ", " + bits + ")", x.put(r, i, bits), m.put(r, i, bits)); break;
            case 4: same("item(" + r + ", " + i + ")", x.item(r, i), m.item(r, i)); break;
            default: same("size(" + r + ")", x.size(r), m.size(r));
        }
    }

    private void makeOne() {
        int r = below(m.count(1));
        for (int i = random.nextInt(7); i > 0; i--) {
            int k = any(6);
            int way = random.nextInt(6);
            long bits = way == 0 ? -1 : way == 1 ? random.nextInt(4) : way == 2 ? below(m.count(4)) : way == 3 ? 0 : edge();
            same("give(" + k + ", " + bits + ")", x.give(k, bits), m.give(k, bits));
        }
        same("make(" + r + ")", x.make(r), m.make(r));
        // A draft of no objects, rows or constants is good for most records.
        if (answer == -1) {
            for (int k = 0; k < 6; k++) {
                long bits = random.nextInt(3) == 0 ? 0 : random.nextInt(3) == 0 ? below(m.count(4)) : -1;
                same("give(" + k + ", " + bits + ")", x.give(k, bits), m.give(k, bits));
            }
            same("make(" + r + ")", x.make(r), m.make(r));
        }
        if (answer < -10) askCause();
    }

    private void askCause() {
        for (int w = -1; w < 6; w++) same("cause(" + w + ")", x.cause(w), m.cause(w));
    }

    private void askObjects() {
        int o = below(m.count(4)), other = below(m.count(4)), p = any(6), f = below(m.count(2));
        switch (random.nextInt(5)) {
            case 0: same("told(" + o + ", " + p + ")", x.told(o, p), m.told(o, p)); break;
            case 1: same("of(" + o + ")", x.of(o), m.of(o)); break;
            case 2: same("tag(" + o + ", " + f + ")", x.tag(o, f), m.tag(o, f)); break;
            case 3: same("same(" + o + ", " + other + ")", x.same(o, other), m.same(o, other)); break;
            default: for (p = -1; p < 7; p++) same("told(" + o + ", " + p + ")", x.told(o, p), m.told(o, p));
        }
    }

    private void useConstants() {
        int e = below(m.count(0)), c = below(m.about(e, 0)), way = any(3), n = (int) edge(), i = any(10);
        long name = name();
        switch (random.nextInt(3)) {
            case 0: same("named(" + e + ", " + name + ")", x.named(e, name), m.named(e, name)); break;
            case 1: same("work(" + e + ", " + c + ", " + way + ", " + n + ")", x.work(e, c, way, n), m.work(e, c, way, n)); break;
            default: same("started(" + i + ")", x.started(i), m.started(i));
        }
    }

    private void loadOne() {
        int l = below(m.count(5));
        same("load(" + l + ")", x.load(l), m.load(l));
        if (answer < -10) askCause();
        if (answer >= 0) {
            int o = (int) answer;
            for (int p = 0; p < 6; p++) same("told(" + o + ", " + p + ")", x.told(o, p), m.told(o, p));
        }
    }

    private void useTable() {
        int o = below(m.count(4)), l = below(m.count(5)), what = any(4), i = random.nextInt(6) - 1;
        int e = below(m.count(0)), low = random.nextInt(10) - 2, high = random.nextInt(10) - 1;
        long part = name(), name = name();
        switch (random.nextInt(7)) {
            case 0: case 1: same("keep(" + o + ")", x.keep(o), m.keep(o)); break;
            case 2: case 3: loadOne(); break;
            case 4: same("line(" + l + ", " + what + ")", x.line(l, what), m.line(l, what)); break;
            case 5: same("word(" + part + ", " + name + ", " + i + ")", x.word(part, name, i), m.word(part, name, i)); break;
            default: {
                String call = "range(" + part + ", " + e + ", " + low + ", " + high + ", " + i + ")";
                same(call, x.range(part, e, low, high, i), m.range(part, e, low, high, i));
            }
        }
    }

    private void askCounts() {
        int what = any(8), type = any(6), of = any(5);
        if (coin()) same("count(" + what + ")", x.count(what), m.count(what));
        else same("about(" + type + ", " + of + ")", x.about(type, of), m.about(type, of));
    }
}
