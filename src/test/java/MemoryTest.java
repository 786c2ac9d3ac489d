import java.lang.management.ManagementFactory;
import java.lang.reflect.Field;
import java.lang.reflect.Modifier;

/** Terms: "All memory is the class's own rows." */
public final class MemoryTest {
    public static void main(String[] args) {
        Checks checks = new Checks();
        everyFieldIsTheClassesOwn(checks, ReachKeeper.class);
        for (Class<?> inside : ReachKeeper.class.getDeclaredClasses()) {
            everyFieldIsTheClassesOwn(checks, inside);
        }
        noCallMakesObjects(checks);
        checks.end();
    }

    /** A row that is final was made with the object, and stays. */
    private static void everyFieldIsTheClassesOwn(Checks checks, Class<?> kind) {
        for (Field field : kind.getDeclaredFields()) {
            Class<?> type = field.getType();
            boolean row = type.isArray() && type.getComponentType().isPrimitive();
            boolean own = type.getEnclosingClass() == ReachKeeper.class;
            checks.equal(field + " is a number, a row or a class inside", true,
                    () -> type.isPrimitive() || row || own);
            checks.equal(field + " is not made anew", true,
                    () -> type.isPrimitive() || Modifier.isFinal(field.getModifiers()));
        }
    }

    private static void noCallMakesObjects(Checks checks) {
        if (!(ManagementFactory.getThreadMXBean() instanceof com.sun.management.ThreadMXBean)) {
            System.out.println("this java does not count what a thread makes; looked at the fields alone");
            return;
        }
        com.sun.management.ThreadMXBean bean =
                (com.sun.management.ThreadMXBean) ManagementFactory.getThreadMXBean();
        long least = Long.MAX_VALUE;
        // Java itself makes objects when it meets code for the first time, so the least of some runs tells.
        for (int run = 0; run < 5; run++) {
            ReachKeeper keeper = new ReachKeeper();
            least = Math.min(least, bytesMade(bean, keeper));
        }
        long made = least;
        checks.equal("bytes made by some 500 calls", 0L, () -> made);
    }

    private static long bytesMade(com.sun.management.ThreadMXBean bean, ReachKeeper keeper) {
        long thread = Thread.currentThread().getId();
        long before = bean.getThreadAllocatedBytes(thread);
        useAll(keeper);
        return bean.getThreadAllocatedBytes(thread) - before;
    }

    private static void useAll(ReachKeeper keeper) {
        for (int round = 0; round < 3; round++) {
            boolean more = round % 2 == 0;
            for (int v = 0; v < 32; v++) {
                keeper.change(v, (v + 1) % 32, more);
            }
            keeper.apply();
            keeper.change(0, 0, true);
            keeper.forget();
            for (int v = 0; v < 32; v++) {
                keeper.holds(v, 31 - v);
                keeper.times(v, v);
                if (more) {
                    keeper.came(v);
                    keeper.distance(v, v);
                } else {
                    keeper.went(v);
                    keeper.count(v % 8);
                }
            }
        }
    }
}
