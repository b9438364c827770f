import java.util.Random;

/** Rule 7 of LANGUAGE.md: no call ever throws, for any numbers in any state; also far beyond 512 calls. */
public final class NeverThrowsTest {
    private static final int RUNS = 4000, CALLS = 700;
    private static final long[] FAR = {0, -1, 1, Integer.MIN_VALUE, Integer.MAX_VALUE, Long.MIN_VALUE, Long.MAX_VALUE, 1L << 32,
        (1L << 32) - 1, 40, 64, 100, 424, 1000};
    private static final Due due = new Due();

    public static void main(String[] args) {
        for (int seed = 0; seed < RUNS; seed++) run(seed);
        due.end();
    }

    private static void run(int seed) {
        Random random = new Random(seed);
        FamilyFields x = seed % 2 == 0 ? new FamilyFields() : Worlds.full();
        Call call = null;
        try {
            for (int i = 0; i < CALLS; i++) {
                String name = RefusedTest.METHODS[random.nextInt(RefusedTest.METHODS.length)];
                if (name.equals("build") && random.nextInt(8) > 0) continue;
                call = random.nextInt(6) == 0 ? farCall(name, random) : RefusedTest.anyCall(name, random, i % 3 == 0);
                call.on(x);
            }
            due.holds("run " + seed, true);
        } catch (IllegalStateException e) {
            due.holds("run " + seed + ": " + call + " answers: " + e.getCause().getCause(), false);
        }
    }

    private static Call farCall(String name, Random random) {
        long[] numbers = new long[Call.sorts(name).length];
        for (int i = 0; i < numbers.length; i++) numbers[i] = FAR[random.nextInt(FAR.length)];
        return new Call(name, numbers);
    }
}
