import java.util.NoSuchElementException;

/** Terms: "Of several exceptions that fit it throws the one that stands first in its heading." */
public final class FirstExceptionTest {
    public static void main(String[] args) {
        Checks checks = new Checks();
        changeIsBadBeforeItIsFull(checks);
        distanceIsBadBeforeItIsMissing(checks);
        aCallThrowsOnlyItsOwn(checks);
        checks.end();
    }

    // change throws IllegalArgumentException, IndexOutOfBoundsException.
    private static void changeIsBadBeforeItIsFull(Checks checks) {
        for (boolean more : new boolean[] {true, false}) {
            ReachKeeper keeper = new ReachKeeper();
            Checks.gather(keeper, 4, 4, true, 60);
            for (int bad : Checks.NO_VERTICES) {
                checks.refused("bad and full: (" + bad + ", 0)", IllegalArgumentException.class,
                        () -> keeper.change(bad, 0, more));
                checks.refused("bad and full: (31, " + bad + ")", IllegalArgumentException.class,
                        () -> keeper.change(31, bad, more));
                checks.refused("bad twice and full: " + bad, IllegalArgumentException.class,
                        () -> keeper.change(bad, bad, more));
            }
            checks.refused("full alone", IndexOutOfBoundsException.class, () -> keeper.change(0, 31, more));
            checks.equal("forget()", 60, () -> keeper.forget());
            checks.refused("bad alone", IllegalArgumentException.class, () -> keeper.change(32, 0, more));
        }
    }

    // distance throws IllegalArgumentException, NoSuchElementException.
    private static void distanceIsBadBeforeItIsMissing(Checks checks) {
        ReachKeeper keeper = Checks.with(0, 1);
        for (int bad : Checks.NO_VERTICES) {
            checks.refused("bad and missing: (" + bad + ", 0)", IllegalArgumentException.class,
                    () -> keeper.distance(bad, 0));
            checks.refused("bad and missing: (31, " + bad + ")", IllegalArgumentException.class,
                    () -> keeper.distance(31, bad));
            checks.refused("bad twice and missing: " + bad, IllegalArgumentException.class,
                    () -> keeper.distance(bad, bad));
        }
        checks.refused("missing alone", NoSuchElementException.class, () -> keeper.distance(1, 0));
    }

    // What has no exception in its heading throws none: not when the round is full, nor when it has a conflict.
    private static void aCallThrowsOnlyItsOwn(Checks checks) {
        ReachKeeper keeper = new ReachKeeper();
        Checks.gather(keeper, 4, 4, false, 60);
        checks.equal("holds in a full conflict", false, () -> keeper.holds(4, 4));
        checks.equal("times in a full conflict", 0, () -> keeper.times(4, 4));
        checks.refused("distance in a full conflict", NoSuchElementException.class, () -> keeper.distance(4, 4));
        checks.refused("came in a full conflict", NoSuchElementException.class, () -> keeper.came(0));
        checks.refused("went in a full conflict", NoSuchElementException.class, () -> keeper.went(0));
        checks.refused("change in a full conflict", IndexOutOfBoundsException.class, () -> keeper.change(4, 4, true));
        checks.refused("apply in a full conflict", IllegalStateException.class, () -> keeper.apply());
        checks.equal("count in a full conflict", 60, () -> keeper.count(3));
        checks.equal("count of no kind", -1, () -> keeper.count(Integer.MIN_VALUE));
        checks.equal("forget in a full conflict", 60, () -> keeper.forget());
    }
}
