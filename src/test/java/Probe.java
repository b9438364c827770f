import java.util.ArrayList;
import java.util.List;
import java.util.Random;

/** Asks an object all that can be asked of it, and brings to light what can't be asked by going on with it. */
final class Probe {
    static final int WAYS = 24;
    private static final int DIRECTED = 8;
    private final FamilyFields x;
    private final List<Long> answers = new ArrayList<>();

    private Probe(FamilyFields x) {
        this.x = x;
    }

    /** All answers of one way to go on; two objects in the same state answer alike in each. */
    static List<Long> answers(FamilyFields x, int way) {
        Probe probe = new Probe(x);
        probe.readAll();
        switch (way) {
            case 0: probe.constants(); break;
            case 1: probe.limits(); break;
            case 2: probe.keepAndLoad(); break;
            case 3: probe.draft(); break;
            case 4: probe.checks(); break;
            case 5: probe.members(); break;
            case 6: probe.failures(); break;
            case 7: probe.loadNow(); break;
            default: probe.wander(way - DIRECTED);
        }
        probe.readAll();
        return probe.answers;
    }

    private long add(long answer) {
        answers.add(answer);
        return answer;
    }

    private void readAll() {
        for (int what = -1; what < 9; what++) add(x.count(what));
        for (int what = 0; what < 5; what++) {
            for (int t = -1; t < 7; t++) add(x.about(t, what));
        }
        for (int r = 0; r < x.count(3); r++) {
            add(x.size(r));
            for (int i = 0; i < 16; i++) add(x.item(r, i));
        }
        for (int what = -1; what < 6; what++) add(x.cause(what));
        for (int i = 0; i < 11; i++) add(x.started(i));
        readObjects();
        readLines();
    }

    private void readObjects() {
        for (int o = 0; o < x.count(4); o++) {
            add(x.of(o));
            for (int p = 0; p < 6; p++) add(x.told(o, p));
            for (int f = 0; f < 3; f++) add(x.tag(o, f));
            for (int other = 0; other < o; other += 7) add(x.same(o, other));
        }
    }

    private void readLines() {
        for (int l = 0; l < x.count(5); l++) {
            for (int what = 0; what < 4; what++) add(x.line(l, what));
        }
        for (int part = 'a'; part < 'i'; part++) {
            for (int name = 'a'; name < 'i'; name++) {
                add(x.word(part, name, -1));
                add(x.word(part, name, 1));
            }
            for (int e = 0; e < 4; e++) {
                add(x.range(part, e, 0, 3, -1));
                add(x.range(part, e, 2, 9, 0));
            }
        }
    }

    private void constants() {
        for (int e = 0; e < 4; e++) {
            for (int name = 'a'; name < 'k'; name++) add(x.named(e, name));
            for (int c = 0; c < 8; c++) {
                for (int way = 0; way < 3; way++) add(x.work(e, c, way, 1000));
            }
        }
    }

    private void limits() {
        for (int i = 0; i < 42; i++) add(x.row(i % 8, i % 17));
        for (int k = 0; k < 6; k++) x.give(k, 0);
        for (int i = 0; i < 102; i++) add(x.make(0) + 1000L * x.make(5));
        for (int i = 0; i < 66; i++) add(x.keep(i));
    }

    private void keepAndLoad() {
        for (int o = 0; o < x.count(4); o++) add(x.keep(o));
        add(x.build());
        loadNow();
    }

    private void loadNow() {
        for (int l = x.count(5) - 1; l >= 0; l--) add(x.load(l) + 1000L * x.cause(2));
    }

    /** Records of longs tell the draft; becomes() tells the sorts, and check() whether they are as told. */
    private void draft() {
        add(x.build());
        for (int r = 0; r < 6; r++) {
            for (int p = 0; p < 6; p++) add(x.becomes(r, p, 5, 0));
        }
        for (int r = 0; r < 6; r++) add(x.make(r));
    }

    private void checks() {
        add(x.build());
        Random random = new Random(5);
        for (int i = 0; i < 60; i++) {
            for (int k = 0; k < 6; k++) x.give(k, random.nextInt(3) == 0 ? -1 : random.nextInt(4) - random.nextInt(2) * 1001);
            for (int r = 0; r < 6; r++) add(x.make(r) + 1000L * x.cause(3));
        }
    }

    private void members() {
        add(x.build());
        for (int f = 2; f >= 0; f--) {
            for (int m = 0; m < 6; m++) add(x.permit(f, m % 2 == 0, m) + 10L * x.permit(f, m % 2 == 1, m));
        }
        for (int r = 0; r < 6; r++) {
            for (int name = 'a'; name < 'k'; name++) add(x.part(r, name, 4, 0, 0));
        }
        for (int e = 0; e < 4; e++) {
            for (int name = 'a'; name < 'k'; name++) add(x.constant(e, name, true));
        }
        constants();
    }

    private void failures() {
        for (int e = 0; e < 4; e++) add(x.named(e, 'a'));
        add(x.build());
        for (int e = 0; e < 4; e++) add(x.named(e, 'a') + 1000L * x.fails(e, false));
        constants();
    }

    /** Any calls, always the same by the seed. */
    private void wander(int seed) {
        Random random = new Random(seed);
        String[] names = RefusedTest.METHODS;
        for (int i = 0; i < 300; i++) {
            String name = names[random.nextInt(names.length)];
            if (name.equals("build") && random.nextInt(4) > 0) continue;
            add(RefusedTest.anyCall(name, random, false).on(x));
        }
    }
}
