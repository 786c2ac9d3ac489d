import java.util.List;
import java.util.NoSuchElementException;

/** Promise 1: a new object has no edges and nothing gathered. */
public final class NewObjectTest {
    public static void main(String[] args) {
        Checks checks = new Checks();
        ReachKeeper keeper = new ReachKeeper();
        checks.equal("counts", List.of(0, 0, 0, 0, 0, 0, 0, 0), () -> Checks.counts(keeper));
        for (int v = 0; v < 32; v++) {
            int a = v;
            checks.equal("times(" + a + ", " + a + ")", 0, () -> keeper.times(a, a));
            checks.equal("holds(" + a + ", " + a + ")", false, () -> keeper.holds(a, a));
            checks.equal("holds(" + a + ", " + (31 - a) + ")", false, () -> keeper.holds(a, 31 - a));
            checks.refused("distance(" + a + ", " + a + ")", NoSuchElementException.class, () -> keeper.distance(a, a));
        }
        checks.refused("came(0)", NoSuchElementException.class, () -> keeper.came(0));
        checks.refused("went(0)", NoSuchElementException.class, () -> keeper.went(0));
        checks.equal("forget()", 0, () -> keeper.forget());
        checks.equal("apply()", 0, () -> keeper.apply());
        twoObjectsShareNothing(checks);
        checks.end();
    }

    private static void twoObjectsShareNothing(Checks checks) {
        ReachKeeper used = Checks.with(0, 1, 1, 0);
        Checks.more(used, 2, 3);
        ReachKeeper fresh = new ReachKeeper();
        checks.equal("counts beside a used object", List.of(0, 0, 0, 0, 0, 0, 0, 0), () -> Checks.counts(fresh));
        checks.equal("counts of the used object", List.of(2, 2, 4, 1, 4, 0, 2, 1), () -> Checks.counts(used));
    }
}
