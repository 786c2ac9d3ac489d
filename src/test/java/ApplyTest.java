import java.util.List;

/** Promise 4: apply does what's gathered as one, or refuses it whole. */
public final class ApplyTest {
    public static void main(String[] args) {
        Checks checks = new Checks();
        countsCameAndWent(checks);
        looksOnlyAtTheSum(checks);
        refusesAConflict(checks);
        anEmptyRoundIsARound(checks);
        sameWaysByOtherEdges(checks);
        checks.end();
    }

    private static void countsCameAndWent(Checks checks) {
        ReachKeeper keeper = new ReachKeeper();
        Checks.more(keeper, 0, 1, 1, 2, 2, 3);
        checks.equal("a chain comes", 6, () -> keeper.apply());
        checks.equal("gathered", 0, () -> keeper.count(3));
        Checks.less(keeper, 1, 2);
        Checks.more(keeper, 3, 0);
        // What holds now: 0->1, 2->3, 2->0, 2->1, 3->0, 3->1.
        checks.equal("a chain turns", 8, () -> keeper.apply());
        checks.equal("came", List.of(64, 65, 96, 97), () -> Checks.allCame(keeper));
        checks.equal("went", List.of(2, 3, 34, 35), () -> Checks.allWent(keeper));
        ReachKeeper circle = Checks.greatCircle();
        checks.equal("came with the circle", 1024, () -> circle.count(4));
        circle.change(31, 0, false);
        checks.equal("went with its last edge", 528, () -> circle.apply());
    }

    private static void looksOnlyAtTheSum(Checks checks) {
        ReachKeeper keeper = new ReachKeeper();
        Checks.less(keeper, 5, 6, 5, 6);
        Checks.more(keeper, 5, 6, 5, 6, 5, 6);
        checks.equal("less before more", 1, () -> keeper.apply());
        checks.equal("times(5, 6)", 1, () -> keeper.times(5, 6));
        Checks.more(keeper, 5, 6);
        Checks.less(keeper, 5, 6);
        checks.equal("more and less", 0, () -> keeper.apply());
        checks.equal("times(5, 6) still", 1, () -> keeper.times(5, 6));
        Checks.more(keeper, 5, 6);
        Checks.less(keeper, 5, 6, 5, 6);
        checks.equal("down to 0", 1, () -> keeper.apply());
        checks.equal("times(5, 6) at last", 0, () -> keeper.times(5, 6));
    }

    private static void refusesAConflict(Checks checks) {
        ReachKeeper keeper = Checks.with(0, 1, 1, 2);
        List<Integer> counts = List.of(2, 2, 3, 4, 3, 0, 0, 0);
        Checks.more(keeper, 2, 0);
        Checks.less(keeper, 0, 1, 0, 1);
        Checks.more(keeper, 9, 9);
        for (int i = 0; i < 2; i++) {
            checks.refused("conflict", IllegalStateException.class, () -> keeper.apply());
            checks.equal("counts behind it", counts, () -> Checks.counts(keeper));
            checks.equal("came behind it", List.of(1, 2, 34), () -> Checks.allCame(keeper));
            checks.equal("times(0, 1) behind it", 1, () -> keeper.times(0, 1));
            checks.equal("times(2, 0) behind it", 0, () -> keeper.times(2, 0));
            checks.equal("holds(2, 0) behind it", false, () -> keeper.holds(2, 0));
        }
        checks.equal("one change mends it", 5, () -> keeper.change(0, 1, true));
        // What holds now: 1->2, 2->0, 1->0, 9->9.
        checks.equal("the mended round", 5, () -> keeper.apply());
        checks.equal("came", List.of(32, 64, 297), () -> Checks.allCame(keeper));
        checks.equal("went", List.of(1, 2), () -> Checks.allWent(keeper));
    }

    private static void anEmptyRoundIsARound(Checks checks) {
        ReachKeeper keeper = Checks.with(0, 1);
        checks.equal("nothing gathered", 0, () -> keeper.apply());
        checks.equal("counts", List.of(1, 1, 1, 0, 0, 0, 0, 0), () -> Checks.counts(keeper));
    }

    private static void sameWaysByOtherEdges(Checks checks) {
        ReachKeeper keeper = Checks.with(0, 1, 1, 2, 2, 0);
        Checks.less(keeper, 0, 1, 1, 2, 2, 0);
        Checks.more(keeper, 0, 2, 2, 1, 1, 0);
        checks.equal("the circle turned round", 0, () -> keeper.apply());
        checks.equal("counts", List.of(3, 3, 9, 0, 0, 0, 3, 1), () -> Checks.counts(keeper));
        checks.equal("distance(0, 1)", 2, () -> keeper.distance(0, 1));
    }
}
