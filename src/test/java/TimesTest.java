/** Promise 9: times tells an edge's count. */
public final class TimesTest {
    public static void main(String[] args) {
        Checks checks = new Checks();
        countsApplied(checks);
        growsRoundByRound(checks);
        refusesWrongVertices(checks);
        checks.end();
    }

    private static void countsApplied(Checks checks) {
        ReachKeeper keeper = Checks.with(7, 8, 7, 8, 7, 8, 8, 7, 31, 31, 0, 0);
        checks.equal("times(7, 8)", 3, () -> keeper.times(7, 8));
        checks.equal("times(8, 7)", 1, () -> keeper.times(8, 7));
        checks.equal("times(31, 31)", 1, () -> keeper.times(31, 31));
        checks.equal("times(0, 0)", 1, () -> keeper.times(0, 0));
        checks.equal("a pair that holds without an edge", 0, () -> keeper.times(7, 7));
        Checks.less(keeper, 7, 8, 7, 8);
        checks.equal("gathered alone", 3, () -> keeper.times(7, 8));
        keeper.apply();
        checks.equal("twice less", 1, () -> keeper.times(7, 8));
        Checks.less(keeper, 7, 8);
        keeper.apply();
        checks.equal("none", 0, () -> keeper.times(7, 8));
        checks.equal("the other side stays", 1, () -> keeper.times(8, 7));
    }

    private static void growsRoundByRound(Checks checks) {
        ReachKeeper keeper = new ReachKeeper();
        for (int round = 1; round <= 7; round++) {
            for (int i = 0; i < 60; i++) {
                keeper.change(30, 2, true);
            }
            keeper.apply();
            checks.equal("times behind round " + round, 60 * round, () -> keeper.times(30, 2));
        }
        checks.equal("edges", 1, () -> keeper.count(0));
        checks.equal("counts in all", 420, () -> keeper.count(1));
    }

    private static void refusesWrongVertices(Checks checks) {
        ReachKeeper keeper = Checks.greatCircle();
        for (int v : new int[] {-1, 32, Integer.MIN_VALUE, Integer.MAX_VALUE}) {
            checks.refused("times(" + v + ", 0)", IllegalArgumentException.class, () -> keeper.times(v, 0));
            checks.refused("times(0, " + v + ")", IllegalArgumentException.class, () -> keeper.times(0, v));
            checks.refused("times(1, " + v + ")", IllegalArgumentException.class, () -> keeper.times(1, v));
        }
    }
}
