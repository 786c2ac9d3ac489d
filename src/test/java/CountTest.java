import java.util.List;

/** Promise 10: count tells eight numbers, and -1 for any other. */
public final class CountTest {
    public static void main(String[] args) {
        Checks checks = new Checks();
        tellsAllEight(checks);
        countsSets(checks);
        countsTheFullest(checks);
        countsGatheredFromNoneToFull(checks);
        countsLoopsAndSetsFromNoneToAll(checks);
        aLoneVertexIsNoSet(checks);
        knowsNoOther(checks);
        checks.end();
    }

    private static void tellsAllEight(Checks checks) {
        ReachKeeper keeper = Checks.with(0, 1, 0, 1, 1, 0, 1, 2, 2, 3);
        checks.equal("first round", List.of(4, 5, 9, 0, 9, 0, 2, 1), () -> Checks.counts(keeper));
        Checks.less(keeper, 1, 0, 0, 1);
        Checks.more(keeper, 3, 3, 3, 2);
        checks.equal("gathering", List.of(4, 5, 9, 4, 9, 0, 2, 1), () -> Checks.counts(keeper));
        keeper.apply();
        // Came: 2->2, 3->2, 3->3. Went: 0->0, 1->0, 1->1.
        checks.equal("second round", List.of(5, 5, 9, 0, 3, 3, 2, 1), () -> Checks.counts(keeper));
    }

    private static void countsSets(Checks checks) {
        ReachKeeper pairs = Checks.with(0, 31, 31, 0, 5, 6, 6, 5, 0, 5, 9, 9, 6, 9, 9, 20);
        checks.equal("two pairs and a loop, joined one way", 3, () -> pairs.count(7));
        checks.equal("those that lead to themselves", 5, () -> pairs.count(6));
        pairs.change(20, 31, true);
        pairs.apply();
        checks.equal("all joined to one", 1, () -> pairs.count(7));
        checks.equal("all lead to themselves", 6, () -> pairs.count(6));
        ReachKeeper downward = Checks.with(9, 9, 9, 3, 3, 3);
        checks.equal("two loops, joined from the higher one", 2, () -> downward.count(7));
        ReachKeeper loops = new ReachKeeper();
        for (int v = 0; v < 32; v++) {
            loops.change(v, v, true);
        }
        for (int v = 0; v < 28; v++) {
            loops.change(v, v + 1, true);
        }
        loops.apply();
        checks.equal("each loop is a set", 32, () -> loops.count(7));
        checks.equal("each loop leads to itself", 32, () -> loops.count(6));
    }

    private static void countsTheFullest(Checks checks) {
        ReachKeeper circle = Checks.greatCircle();
        checks.equal("circle", List.of(32, 32, 1024, 0, 1024, 0, 32, 1), () -> Checks.counts(circle));
        for (int v = 0; v < 32; v++) {
            circle.change(v, (v + 1) % 32, false);
        }
        circle.apply();
        checks.equal("no circle", List.of(0, 0, 0, 0, 0, 1024, 0, 0), () -> Checks.counts(circle));
    }

    // "CHANGES gathered (3)"
    private static void countsGatheredFromNoneToFull(Checks checks) {
        ReachKeeper keeper = new ReachKeeper();
        for (int i = 0; i <= 60; i++) {
            int due = i;
            checks.equal("gathered", due, () -> keeper.count(3));
            Checks.outcome(() -> keeper.change(due % 32, 0, due % 3 != 0));
        }
        checks.equal("gathered behind a refused one", 60, () -> keeper.count(3));
        checks.refused("conflict", IllegalStateException.class, () -> keeper.apply());
        checks.equal("gathered behind a conflict", 60, () -> keeper.count(3));
        keeper.forget();
        checks.equal("gathered behind forget", 0, () -> keeper.count(3));
    }

    // "VERTICES that lead to themselves (6)" and "sets ... as large as can be (7)": 32 loops, joined one by one.
    private static void countsLoopsAndSetsFromNoneToAll(Checks checks) {
        ReachKeeper keeper = new ReachKeeper();
        for (int v = 0; v < 32; v++) {
            int before = v;
            checks.equal("loops", before, () -> keeper.count(6));
            checks.equal("sets", before, () -> keeper.count(7));
            keeper.change(v, v, true);
            keeper.apply();
        }
        for (int v = 31; v > 0; v--) {
            int due = v;
            Checks.more(keeper, v, v - 1, v - 1, v);
            keeper.apply();
            checks.equal("all lead to themselves", 32, () -> keeper.count(6));
            checks.equal("sets, two made one", due, () -> keeper.count(7));
        }
        ReachKeeper couples = new ReachKeeper();
        for (int v = 0; v < 16; v++) {
            Checks.more(couples, v, 31 - v, 31 - v, v);
        }
        couples.apply();
        checks.equal("couples", List.of(32, 32, 64, 0, 64, 0, 32, 16), () -> Checks.counts(couples));
    }

    // "that all lead to each other and themselves": one way alone makes no set, nor does a vertex without a loop.
    private static void aLoneVertexIsNoSet(Checks checks) {
        ReachKeeper keeper = Checks.with(0, 1, 0, 2, 1, 2, 2, 31);
        checks.equal("ways without return", 0, () -> keeper.count(7));
        keeper.change(31, 31, true);
        keeper.apply();
        checks.equal("a loop is a set of one", 1, () -> keeper.count(7));
        keeper.change(0, 0, true);
        keeper.apply();
        checks.equal("another, joined one way", 2, () -> keeper.count(7));
        keeper.change(31, 0, true);
        keeper.apply();
        checks.equal("all four in one", 1, () -> keeper.count(7));
        checks.equal("all four lead to themselves", 4, () -> keeper.count(6));
    }

    private static void knowsNoOther(Checks checks) {
        ReachKeeper keeper = Checks.greatCircle();
        int[] others = {-1, 8, 9, 15, 16, 32, -8, -7, 255, 256, 257, 263, 65536, 65543, Integer.MIN_VALUE,
            Integer.MIN_VALUE + 7, Integer.MAX_VALUE};
        for (int what : others) {
            checks.equal("count(" + what + ")", -1, () -> keeper.count(what));
        }
        for (int what = 0; what < 8; what++) {
            int known = what;
            checks.equal("count(" + what + ") is known", true, () -> keeper.count(known) >= 0);
        }
        checks.equal("a new object's count(-1)", -1, () -> new ReachKeeper().count(-1));
        checks.equal("a new object's count(8)", -1, () -> new ReachKeeper().count(8));
    }
}
