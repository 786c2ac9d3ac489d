import java.util.List;
import java.util.NoSuchElementException;

/** Promise 1: a new object has no edges and nothing gathered. */
public final class NewObjectTest {
    private static final List<Integer> ZEROS = List.of(0, 0, 0, 0, 0, 0, 0, 0);

    public static void main(String[] args) {
        Checks checks = new Checks();
        noEdges(checks);
        nothingGathered(checks);
        roomForAFullRound(checks);
        nothingCameOrWent(checks);
        twoObjectsShareNothing(checks);
        checks.end();
    }

    // "No EDGES": of all 1024 pairs none is one, none holds, no way leads there.
    private static void noEdges(Checks checks) {
        for (int row = 0; row < 32; row++) {
            int a = row;
            ReachKeeper keeper = new ReachKeeper();
            for (int column = 0; column < 32; column++) {
                int b = column;
                String ends = "(" + a + ", " + b + ")";
                checks.equal("times" + ends, 0, () -> keeper.times(a, b));
                checks.equal("holds" + ends, false, () -> keeper.holds(a, b));
                checks.refused("distance" + ends, NoSuchElementException.class, () -> keeper.distance(a, b));
            }
            checks.equal("counts", ZEROS, () -> Checks.counts(keeper));
        }
    }

    // "nothing gathered"
    private static void nothingGathered(Checks checks) {
        ReachKeeper asked = new ReachKeeper();
        checks.equal("count(3)", 0, () -> asked.count(3));
        ReachKeeper forgotten = new ReachKeeper();
        checks.equal("forget()", 0, () -> forgotten.forget());
        ReachKeeper applied = new ReachKeeper();
        checks.equal("apply()", 0, () -> applied.apply());
        checks.equal("counts behind apply()", ZEROS, () -> Checks.counts(applied));
        ReachKeeper changed = new ReachKeeper();
        checks.equal("first change", 1, () -> changed.change(0, 0, false));
    }

    private static void roomForAFullRound(Checks checks) {
        ReachKeeper keeper = new ReachKeeper();
        for (int i = 1; i <= 60; i++) {
            int due = i;
            checks.equal("change " + i, due, () -> keeper.change(0, 31, true));
        }
        checks.refused("change 61", IndexOutOfBoundsException.class, () -> keeper.change(0, 31, true));
    }

    private static void nothingCameOrWent(Checks checks) {
        ReachKeeper keeper = new ReachKeeper();
        for (int i : new int[] {-1, 0, 1, 1023, 1024, Integer.MIN_VALUE, Integer.MAX_VALUE}) {
            checks.refused("came(" + i + ")", NoSuchElementException.class, () -> keeper.came(i));
            checks.refused("went(" + i + ")", NoSuchElementException.class, () -> keeper.went(i));
        }
    }

    private static void twoObjectsShareNothing(Checks checks) {
        ReachKeeper used = Checks.with(0, 1, 1, 0);
        Checks.more(used, 2, 3);
        ReachKeeper fresh = new ReachKeeper();
        checks.equal("counts beside a used object", ZEROS, () -> Checks.counts(fresh));
        checks.equal("counts of the used object", List.of(2, 2, 4, 1, 4, 0, 2, 1), () -> Checks.counts(used));
    }
}
