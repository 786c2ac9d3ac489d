import java.lang.management.ManagementFactory;
import java.util.ArrayList;
import java.util.List;
import java.util.Random;

/**
 * Terms: "All memory is the class's own rows." How they are held inside is free, so this looks only at what shows
 * outside: no object knows of another, and a whole run stays within the room that LANGUAGE.md's rule 12 counts.
 */
public final class MemoryTest {
    private static final int CALLS = 512;
    private static final int OBJECTS = 24;
    private static final int KINDS = 10;
    // The room is 600,000 objects with 7.3 million elements. An element takes a byte or more and an object
    // sixteen, so what stays below 7.3 million bytes is within both.
    private static final long ROOM_BYTES = 7_300_000;

    public static void main(String[] args) {
        Checks checks = new Checks();
        // First, for code that has run for long may be compiled so that it makes fewer objects.
        aRunStaysWithinTheRoom(checks);
        objectsSideBySideAnswerAsAlone(checks);
        anObjectKnowsNothingOfThoseBefore(checks);
        checks.end();
    }

    private static void objectsSideBySideAnswerAsAlone(Checks checks) {
        List<List<Checks.Question>> runs = new ArrayList<>();
        List<List<Object>> alone = new ArrayList<>();
        List<ReachKeeper> keepers = new ArrayList<>();
        for (int seed = 0; seed < OBJECTS; seed++) {
            runs.add(mixedRun(seed));
            alone.add(answers(runs.get(seed)));
            keepers.add(new ReachKeeper());
        }
        for (int i = 0; i < CALLS; i++) {
            for (int seed = 0; seed < OBJECTS; seed++) {
                Checks.Question call = runs.get(seed).get(i);
                ReachKeeper keeper = keepers.get(seed);
                checks.equal("object " + seed + ", call " + i, alone.get(seed).get(i), () -> call.answer(keeper));
            }
        }
    }

    private static void anObjectKnowsNothingOfThoseBefore(Checks checks) {
        List<Object> fresh = Snapshot.of(keeper -> { });
        ReachKeeper circle = Checks.greatCircle();
        Checks.gather(circle, 0, 0, false, 60);
        checks.equal("a new object is as the first was", true, () -> Snapshot.of(keeper -> { }).equals(fresh));
        checks.equal("the one before is as it was", List.of(32, 32, 1024, 60, 1024, 0, 32, 1),
                () -> Checks.counts(circle));
    }

    private static void aRunStaysWithinTheRoom(Checks checks) {
        if (!(ManagementFactory.getThreadMXBean() instanceof com.sun.management.ThreadMXBean)) {
            System.out.println("this java does not count what a thread makes; the room is not looked at");
            return;
        }
        com.sun.management.ThreadMXBean bean =
                (com.sun.management.ThreadMXBean) ManagementFactory.getThreadMXBean();
        for (int kind = 0; kind < KINDS; kind++) {
            long made = bytesMade(bean, repeated(kind));
            checks.equal("512 calls of kind " + kind + " stay within the room, with " + made + " bytes", true,
                    () -> made < ROOM_BYTES);
        }
        long mixed = bytesMade(bean, mixedRun(OBJECTS));
        checks.equal("512 mixed calls stay within the room, with " + mixed + " bytes", true,
                () -> mixed < ROOM_BYTES);
    }

    private static long bytesMade(com.sun.management.ThreadMXBean bean, List<Checks.Question> run) {
        long thread = Thread.currentThread().getId();
        long before = bean.getThreadAllocatedBytes(thread);
        answers(run);
        return bean.getThreadAllocatedBytes(thread) - before;
    }

    private static List<Object> answers(List<Checks.Question> run) {
        ReachKeeper keeper = new ReachKeeper();
        List<Object> all = new ArrayList<>();
        for (Checks.Question call : run) {
            all.add(Checks.outcome(() -> call.answer(keeper)));
        }
        return all;
    }

    /** The great circle is there, and then one kind of call alone. */
    private static List<Checks.Question> repeated(int kind) {
        List<Checks.Question> run = new ArrayList<>();
        for (int v = 0; v < 32; v++) {
            int a = v;
            run.add(keeper -> keeper.change(a, (a + 1) % 32, true));
        }
        run.add(keeper -> keeper.apply());
        while (run.size() < CALLS) {
            run.add(callOf(kind, 31, 31, run.size()));
        }
        return run;
    }

    private static List<Checks.Question> mixedRun(int seed) {
        Random random = new Random(seed);
        int vertices = 2 + random.nextInt(31);
        List<Checks.Question> run = new ArrayList<>();
        while (run.size() < CALLS) {
            int a = random.nextInt(50) == 0 ? 32 : random.nextInt(vertices);
            int b = random.nextInt(50) == 0 ? -1 : random.nextInt(vertices);
            // What is beyond the kinds is a change too, so that rounds grow.
            run.add(callOf(random.nextInt(KINDS + 6), a, b, random.nextInt(20)));
        }
        return run;
    }

    private static Checks.Question callOf(int kind, int a, int b, int i) {
        switch (kind) {
            case 0:
                return keeper -> keeper.apply();
            case 1:
                return keeper -> keeper.forget();
            case 2:
                return keeper -> keeper.change(a, b, i % 2 == 0);
            case 3:
                return keeper -> keeper.holds(a, b);
            case 4:
                return keeper -> keeper.distance(a, b);
            case 5:
                return keeper -> keeper.times(a, b);
            case 6:
                return keeper -> keeper.came(i);
            case 7:
                return keeper -> keeper.went(i);
            case 8:
                return keeper -> keeper.count(i % 9);
            default:
                return keeper -> keeper.change(a, b, true);
        }
    }
}
