import java.util.List;

/** Promise 2: change gathers, and answers how many are gathered. */
public final class ChangeTest {
    public static void main(String[] args) {
        Checks checks = new Checks();
        gathersWithoutDoing(checks);
        refusesWrongVertices(checks);
        refusesTheSixtyFirst(checks);
        checks.end();
    }

    private static void gathersWithoutDoing(Checks checks) {
        ReachKeeper keeper = new ReachKeeper();
        checks.equal("first change", 1, () -> keeper.change(0, 31, true));
        checks.equal("the same again", 2, () -> keeper.change(0, 31, true));
        checks.equal("the same edge less", 3, () -> keeper.change(0, 31, false));
        checks.equal("an edge that is not there less", 4, () -> keeper.change(31, 31, false));
        checks.equal("counts before apply", List.of(0, 0, 0, 4, 0, 0, 0, 0), () -> Checks.counts(keeper));
        checks.equal("times before apply", 0, () -> keeper.times(0, 31));
        checks.equal("holds before apply", false, () -> keeper.holds(0, 31));
        checks.equal("an edge that is not there more", 5, () -> keeper.change(31, 31, true));
        checks.equal("apply()", 1, () -> keeper.apply());
        checks.equal("times(0, 31)", 1, () -> keeper.times(0, 31));
        checks.equal("times(31, 31)", 0, () -> keeper.times(31, 31));
        checks.equal("the next round's first", 1, () -> keeper.change(0, 31, false));
    }

    private static void refusesWrongVertices(Checks checks) {
        int[] wrong = {-1, 32, -32, 33, 1024, Integer.MIN_VALUE, Integer.MAX_VALUE};
        ReachKeeper keeper = new ReachKeeper();
        keeper.change(4, 5, true);
        for (int v : wrong) {
            checks.refused("change(" + v + ", 0)", IllegalArgumentException.class, () -> keeper.change(v, 0, true));
            checks.refused("change(0, " + v + ")", IllegalArgumentException.class, () -> keeper.change(0, v, false));
            checks.refused("change(1, " + v + ")", IllegalArgumentException.class, () -> keeper.change(1, v, true));
        }
        checks.equal("gathered after refusals", 1, () -> keeper.count(3));
        checks.equal("change after refusals", 2, () -> keeper.change(4, 5, true));
        checks.equal("apply()", 1, () -> keeper.apply());
        checks.equal("counts", List.of(1, 2, 1, 0, 1, 0, 0, 0), () -> Checks.counts(keeper));
    }

    private static void refusesTheSixtyFirst(Checks checks) {
        ReachKeeper keeper = new ReachKeeper();
        for (int i = 1; i <= 60; i++) {
            int due = i;
            checks.equal("change number " + i, due, () -> keeper.change(due % 2, 1, true));
        }
        checks.refused("61st change", IndexOutOfBoundsException.class, () -> keeper.change(0, 1, true));
        checks.refused("61st change, less", IndexOutOfBoundsException.class, () -> keeper.change(9, 9, false));
        checks.refused("61st change, bad a", IllegalArgumentException.class, () -> keeper.change(32, 1, true));
        checks.refused("61st change, bad b", IllegalArgumentException.class, () -> keeper.change(1, -1, true));
        checks.equal("gathered", 60, () -> keeper.count(3));
        checks.equal("apply()", 2, () -> keeper.apply());
        checks.equal("times(0, 1)", 30, () -> keeper.times(0, 1));
        checks.equal("times(1, 1)", 30, () -> keeper.times(1, 1));
        checks.equal("change after apply", 1, () -> keeper.change(0, 1, true));
    }
}
