import java.util.ArrayList;
import java.util.LinkedHashMap;
import java.util.List;
import java.util.Map;
import java.util.Random;
import java.util.Set;
import java.util.TreeSet;
import java.util.function.Consumer;

/** "They change nothing, but as told": what was refused, or only asked, leaves an object as it was, in promises 2 to 35. */
public final class RefusedTest {
    /** In the document's order: the first is that of promise 2. */
    static final String[] METHODS = {"enumeration", "constant", "exchange", "forget", "fails", "family", "permit", "record",
        "part", "without", "becomes", "check", "build", "row", "put", "item", "size", "give", "make", "cause", "told", "of",
        "tag", "same", "named", "work", "started", "keep", "load", "line", "word", "range", "count", "about"};
    private static final Set<String> ASKING = Set.of("item", "size", "cause", "told", "of", "tag", "same", "started", "line",
        "word", "range", "count", "about");
    /** What the document says that a call may be refused with; each must have been seen. */
    private static final String[] REFUSALS = {"enumeration -2 -3", "constant -1 -2 -3", "exchange -1 -2", "forget -1 -2",
        "fails -1 -2", "family -2 -3", "permit -1 -2 -3", "record -2 -3", "part -1 -2 -3", "without -1 -2", "becomes -1 -2",
        "check -1 -2 -3", "build -3", "row -1 -3 -14", "put -1 -15", "item 0", "size -1", "give -1", "make -1 -3",
        "cause -2147483648", "told -9223372036854775808", "of -1", "tag -1", "same -1", "named -1",
        "work -9223372036854775808", "started -1", "keep -1 -3", "load -1", "line -1", "word -1", "range -1", "count -1",
        "about -1"};
    private static final int TRIES = 120;
    private static final Due due = new Due();
    private static final Set<String> seen = new TreeSet<>();

    public static void main(String[] args) {
        for (Map.Entry<String, Consumer<FamilyFields>> state : states().entrySet()) refuse(state.getKey(), state.getValue());
        for (int m = 0; m < METHODS.length; m++) {
            due.promise(m + 2, "They change nothing, but as told.");
            String[] answers = REFUSALS[m].split(" ");
            for (int i = 1; i < answers.length; i++) {
                String refusal = METHODS[m] + " " + answers[i];
                due.holds("the answer of a refused " + refusal + " was seen", seen.contains(refusal));
            }
        }
        due.end();
    }

    private static Map<String, Consumer<FamilyFields>> states() {
        Map<String, Consumer<FamilyFields>> states = new LinkedHashMap<>();
        states.put("a new object", x -> { });
        states.put("some types", RefusedTest::someTypes);
        states.put("all types", Worlds::fill);
        states.put("all types, with what failed", RefusedTest::failures);
        states.put("objects", RefusedTest::objects);
        states.put("all rows, objects and lines", RefusedTest::allThereCanBe);
        states.put("lines that were loaded", RefusedTest::loaded);
        states.put("lines that can't be loaded", RefusedTest::halfLoaded);
        states.put("the last build", RefusedTest::lastBuild);
        return states;
    }

    private static void someTypes(FamilyFields x) {
        x.enumeration();
        x.enumeration();
        for (int c = 0; c < 3; c++) x.constant(0, 'a' + c, c == 1);
        x.family();
        x.family();
        x.record();
        x.record();
        x.permit(0, false, 1);
        x.permit(1, true, 0);
        x.part(0, 'a', 8, 0, 0);
        x.part(0, 'b', 10, 4, 0);
        x.part(1, 'a', 4, 0, 77);
        x.check(1, 0, 2, 0, 0);
        x.row(4, 3);
        x.put(0, 1, 9);
        for (int k = 0; k < 6; k++) x.give(k, 40 + k);
    }

    private static void failures(FamilyFields x) {
        Worlds.fill(x);
        x.fails(0, true);
        x.fails(1, true);
        x.named(0, 'a');
        x.named(2, 'a');
        for (int k = 0; k < 6; k++) x.give(k, k);
        x.make(4);
        Worlds.make(x, 0, 1, 1, 1, 1, 5000, 1);
    }

    private static void objects(FamilyFields x) {
        Worlds.fill(x);
        x.row(1, 4);
        x.row(2, 16);
        x.put(0, 2, 5);
        Worlds.make(x, 5, 1, 2, 3, 4, 5, 6);
        Worlds.make(x, 0, 1, 2, 3, 4, 5, 6);
        Worlds.make(x, 4, 1, 2, 3, 4, 5, 6);
        Worlds.make(x, 1, 0, 0, 1, 3, 0, -1);
        Worlds.make(x, 3, -1, -1, -1, 8, 1, 1);
        x.keep(0);
        x.keep(2);
        for (int k = 0; k < 6; k++) x.give(k, 70 + k);
    }

    private static void allThereCanBe(FamilyFields x) {
        objects(x);
        for (int i = 0; i < 38; i++) x.row(i % 8, i % 17);
        for (int i = 0; i < 100; i++) Worlds.make(x, i % 2 == 0 ? 5 : 0, i, i, i, i, i, i);
        for (int o = 0; o < 100; o++) x.keep(o);
        for (int k = 0; k < 6; k++) x.give(k, -k);
    }

    private static void loaded(FamilyFields x) {
        objects(x);
        for (int o = 0; o < 5; o++) x.keep(o);
        x.build();
        x.forget(0, 1);
        x.becomes(4, 3, 5, 0);
        x.without(0, 2);
        x.part(0, 'h', 6, 0, 0x3f800000L);
        x.row(3, 3);
        for (int l = 0; l < 5; l++) x.load(l);
        x.keep(1);
    }

    /** No objects, but lines, and a row that a load made before it failed. */
    private static void halfLoaded(FamilyFields x) {
        someTypes(x);
        x.give(0, 1);
        x.give(1, 0);
        x.keep(x.make(0));
        x.keep(x.make(1));
        x.build();
        x.part(0, 'c', 4, 0, 0);
        x.check(0, 2, 2, 0, 0);
        x.becomes(1, 0, 1, 0);
        x.load(0);
        x.load(1);
        x.row(5, 2);
    }

    private static void lastBuild(FamilyFields x) {
        for (int b = 0; b < 1000; b++) x.build();
        someTypes(x);
        Worlds.make(x, 0, 1, 0);
        x.keep(0);
    }

    /** A call with numbers that are mostly in the document's bounds or, if wide, just as often at and beyond them. */
    static Call anyCall(String name, Random random, boolean wide) {
        Class<?>[] sorts = Call.sorts(name);
        long[] numbers = new long[sorts.length];
        for (int i = 0; i < numbers.length; i++) {
            boolean isName = sorts[i] == long.class && !Set.of("check", "put", "give").contains(name) && i < 2;
            int kind = random.nextInt(wide ? 3 : 12);
            if (sorts[i] == boolean.class) numbers[i] = random.nextInt(2);
            else if (isName) numbers[i] = kind == 0 ? random.nextInt(3) - 1 : 'a' + random.nextInt(10);
            else if (kind == 0) numbers[i] = new long[] {-1, -2, 4, 6, 8, 12, 17, 64, 100, Integer.MIN_VALUE, Integer.MAX_VALUE}[random.nextInt(11)];
            else numbers[i] = random.nextInt(kind == 1 ? 12 : 4);
        }
        return new Call(name, numbers);
    }

    private static boolean isRefused(String name, long answer) {
        if (ASKING.contains(name)) return true;
        if (name.equals("work")) return answer == Long.MIN_VALUE;
        if (name.equals("row")) return answer < 0;
        if (name.equals("put")) return answer < 0;
        return answer <= -1 && answer >= -3;
    }

    private static FamilyFields in(Consumer<FamilyFields> state) {
        FamilyFields x = new FamilyFields();
        state.accept(x);
        return x;
    }

    private static void refuse(String told, Consumer<FamilyFields> state) {
        List<Call> calls = new ArrayList<>();
        List<Long> answers = new ArrayList<>();
        Random random = new Random(told.hashCode());
        for (String name : METHODS) {
            for (int i = 0; i < TRIES; i++) {
                Call call = anyCall(name, random, true);
                long answer = call.on(in(state));
                if (!isRefused(name, answer)) continue;
                seen.add(name + " " + answer);
                calls.add(call);
                answers.add(answer);
                if (Call.sorts(name).length == 0) break;
            }
        }
        if (changesNothing(state, calls, answers)) {
            due.holds("all changes nothing", true);
            return;
        }
        for (int i = 0; i < calls.size(); i++) {
            due.promise(2 + List.of(METHODS).indexOf(calls.get(i).name), "They change nothing, but as told.");
            boolean nothing = changesNothing(state, List.of(calls.get(i)), List.of(answers.get(i)));
            due.holds(calls.get(i) + " = " + answers.get(i) + " changes nothing in: " + told, nothing);
        }
        due.holds("all these refused calls together change nothing in: " + told, false);
    }

    /** Whether an object goes on like another one that was not asked these. */
    private static boolean changesNothing(Consumer<FamilyFields> state, List<Call> calls, List<Long> answers) {
        for (int way = 0; way < Probe.WAYS; way++) {
            FamilyFields asked = in(state);
            for (int i = 0; i < calls.size(); i++) {
                if (calls.get(i).on(asked) != answers.get(i)) return false;
            }
            if (!Probe.answers(asked, way).equals(Probe.answers(in(state), way))) return false;
        }
        return true;
    }
}
