/** Promise 5: holds tells whether a way of one or more edges leads from a to b. */
public final class HoldsTest {
    public static void main(String[] args) {
        Checks checks = new Checks();
        followsWays(checks);
        losesThem(checks);
        refusesWrongVertices(checks);
        checks.end();
    }

    private static void followsWays(Checks checks) {
        ReachKeeper keeper = Checks.with(31, 17, 17, 0, 0, 30, 4, 4);
        int[] chain = {31, 17, 0, 30};
        for (int i = 0; i < chain.length; i++) {
            for (int j = 0; j < chain.length; j++) {
                int a = chain[i];
                int b = chain[j];
                checks.equal("holds(" + a + ", " + b + ")", i < j, () -> keeper.holds(a, b));
            }
        }
        checks.equal("holds(4, 4)", true, () -> keeper.holds(4, 4));
        checks.equal("holds(4, 31)", false, () -> keeper.holds(4, 31));
        ReachKeeper circle = Checks.greatCircle();
        for (int v = 0; v < 32; v++) {
            int a = v;
            checks.equal("circle: holds(" + a + ", " + a + ")", true, () -> circle.holds(a, a));
            checks.equal("circle: holds(" + a + ", 0)", true, () -> circle.holds(a, 0));
        }
    }

    private static void losesThem(Checks checks) {
        ReachKeeper keeper = Checks.with(0, 1, 1, 3, 0, 2, 2, 3);
        Checks.less(keeper, 1, 3);
        keeper.apply();
        checks.equal("another way is left", true, () -> keeper.holds(0, 3));
        checks.equal("no way from 1", false, () -> keeper.holds(1, 3));
        Checks.less(keeper, 0, 2);
        checks.equal("gathered alone changes nothing", true, () -> keeper.holds(0, 3));
        keeper.apply();
        checks.equal("no way is left", false, () -> keeper.holds(0, 3));
        ReachKeeper twice = Checks.with(6, 7, 6, 7);
        Checks.less(twice, 6, 7);
        twice.apply();
        checks.equal("the edge is there once", true, () -> twice.holds(6, 7));
    }

    private static void refusesWrongVertices(Checks checks) {
        ReachKeeper keeper = Checks.greatCircle();
        for (int v : new int[] {-1, 32, Integer.MIN_VALUE, Integer.MAX_VALUE}) {
            checks.refused("holds(" + v + ", 0)", IllegalArgumentException.class, () -> keeper.holds(v, 0));
            checks.refused("holds(0, " + v + ")", IllegalArgumentException.class, () -> keeper.holds(0, v));
            checks.refused("holds(1, " + v + ")", IllegalArgumentException.class, () -> keeper.holds(1, v));
        }
    }
}
