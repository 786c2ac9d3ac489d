import java.util.List;

/** Promise 4: apply does what's gathered as one, or refuses it whole. */
public final class ApplyTest {
    public static void main(String[] args) {
        Checks checks = new Checks();
        countsCameAndWent(checks);
        looksOnlyAtTheSum(checks);
        refusesAConflict(checks);
        anEmptyRoundIsARound(checks);
        sameWaysByOtherEdges(checks);
        thenNothingIsGathered(checks);
        answersFromNoneToAll(checks);
        checks.end();
    }

    private static void countsCameAndWent(Checks checks) {
        ReachKeeper keeper = new ReachKeeper();
        Checks.more(keeper, 0, 1, 1, 2, 2, 3);
        checks.equal("a chain comes", 6, () -> keeper.apply());
        checks.equal("gathered", 0, () -> keeper.count(3));
        Checks.less(keeper, 1, 2);
        Checks.more(keeper, 3, 0);
        // What holds now: 0->1, 2->3, 2->0, 2->1, 3->0, 3->1.
        checks.equal("a chain turns", 8, () -> keeper.apply());
        checks.equal("came", List.of(64, 65, 96, 97), () -> Checks.allCame(keeper));
        checks.equal("went", List.of(2, 3, 34, 35), () -> Checks.allWent(keeper));
        ReachKeeper circle = Checks.greatCircle();
        checks.equal("came with the circle", 1024, () -> circle.count(4));
        circle.change(31, 0, false);
        checks.equal("went with its last edge", 528, () -> circle.apply());
    }

    private static void looksOnlyAtTheSum(Checks checks) {
        ReachKeeper keeper = new ReachKeeper();
        Checks.less(keeper, 5, 6, 5, 6);
        Checks.more(keeper, 5, 6, 5, 6, 5, 6);
        checks.equal("less before more", 1, () -> keeper.apply());
        checks.equal("times(5, 6)", 1, () -> keeper.times(5, 6));
        Checks.more(keeper, 5, 6);
        Checks.less(keeper, 5, 6);
        checks.equal("more and less", 0, () -> keeper.apply());
        checks.equal("times(5, 6) still", 1, () -> keeper.times(5, 6));
        Checks.more(keeper, 5, 6);
        Checks.less(keeper, 5, 6, 5, 6);
        checks.equal("down to 0", 1, () -> keeper.apply());
        checks.equal("times(5, 6) at last", 0, () -> keeper.times(5, 6));
    }

    private static void refusesAConflict(Checks checks) {
        ReachKeeper keeper = Checks.with(0, 1, 1, 2);
        List<Integer> counts = List.of(2, 2, 3, 4, 3, 0, 0, 0);
        Checks.more(keeper, 2, 0);
        Checks.less(keeper, 0, 1, 0, 1);
        Checks.more(keeper, 9, 9);
        for (int i = 0; i < 2; i++) {
            checks.refused("conflict", IllegalStateException.class, () -> keeper.apply());
            checks.equal("counts behind it", counts, () -> Checks.counts(keeper));
            checks.equal("came behind it", List.of(1, 2, 34), () -> Checks.allCame(keeper));
            checks.equal("times(0, 1) behind it", 1, () -> keeper.times(0, 1));
            checks.equal("times(2, 0) behind it", 0, () -> keeper.times(2, 0));
            checks.equal("holds(2, 0) behind it", false, () -> keeper.holds(2, 0));
        }
        checks.equal("one change mends it", 5, () -> keeper.change(0, 1, true));
        // What holds now: 1->2, 2->0, 1->0, 9->9.
        checks.equal("the mended round", 5, () -> keeper.apply());
        checks.equal("came", List.of(32, 64, 297), () -> Checks.allCame(keeper));
        checks.equal("went", List.of(1, 2), () -> Checks.allWent(keeper));
    }

    private static void anEmptyRoundIsARound(Checks checks) {
        ReachKeeper keeper = Checks.with(0, 1);
        checks.equal("nothing gathered", 0, () -> keeper.apply());
        checks.equal("counts", List.of(1, 1, 1, 0, 0, 0, 0, 0), () -> Checks.counts(keeper));
    }

    private static void sameWaysByOtherEdges(Checks checks) {
        ReachKeeper keeper = Checks.with(0, 1, 1, 2, 2, 0);
        Checks.less(keeper, 0, 1, 1, 2, 2, 0);
        Checks.more(keeper, 0, 2, 2, 1, 1, 0);
        checks.equal("the circle turned round", 0, () -> keeper.apply());
        checks.equal("counts", List.of(3, 3, 9, 0, 0, 0, 3, 1), () -> Checks.counts(keeper));
        checks.equal("distance(0, 1)", 2, () -> keeper.distance(0, 1));
    }

    // "then nothing is gathered": the round isn't done a second time, and the next one begins at 1.
    private static void thenNothingIsGathered(Checks checks) {
        for (int size : new int[] {1, 59, 60}) {
            ReachKeeper keeper = new ReachKeeper();
            Checks.gather(keeper, 0, 31, true, size);
            keeper.apply();
            checks.equal("gathered behind " + size, 0, () -> keeper.count(3));
            checks.equal("forget() behind " + size, 0, () -> keeper.forget());
            checks.equal("apply() again", 0, () -> keeper.apply());
            checks.equal("times(0, 31)", size, () -> keeper.times(0, 31));
            checks.equal("the next round's first", 1, () -> keeper.change(0, 31, false));
            keeper.apply();
            checks.equal("times(0, 31) once less", size - 1, () -> keeper.times(0, 31));
        }
    }

    // "Answers how many PAIRS CAME or WENT": 0, 1, and all 1024, of either kind and of both.
    private static void answersFromNoneToAll(Checks checks) {
        ReachKeeper keeper = new ReachKeeper();
        checks.equal("none", 0, () -> keeper.apply());
        keeper.change(31, 31, true);
        checks.equal("one came", 1, () -> keeper.apply());
        keeper.change(31, 31, true);
        checks.equal("twice there, none came", 0, () -> keeper.apply());
        Checks.less(keeper, 31, 31, 31, 31);
        checks.equal("one went", 1, () -> keeper.apply());
        Checks.gatherCircle(keeper, true);
        checks.equal("all came", 1024, () -> keeper.apply());
        Checks.gatherCircle(keeper, false);
        checks.equal("all went", 1024, () -> keeper.apply());
        keeper.change(0, 31, true);
        keeper.apply();
        Checks.less(keeper, 0, 31);
        Checks.more(keeper, 31, 0);
        checks.equal("one came and one went", 2, () -> keeper.apply());
    }
}
