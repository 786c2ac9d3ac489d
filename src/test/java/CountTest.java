import java.util.List;

/** Promise 10: count tells eight numbers, and -1 for any other. */
public final class CountTest {
    public static void main(String[] args) {
        Checks checks = new Checks();
        tellsAllEight(checks);
        countsSets(checks);
        countsTheFullest(checks);
        knowsNoOther(checks);
        checks.end();
    }

    private static void tellsAllEight(Checks checks) {
        ReachKeeper keeper = Checks.with(0, 1, 0, 1, 1, 0, 1, 2, 2, 3);
        checks.equal("first round", List.of(4, 5, 9, 0, 9, 0, 2, 1), () -> Checks.counts(keeper));
        Checks.less(keeper, 1, 0, 0, 1);
        Checks.more(keeper, 3, 3, 3, 2);
        checks.equal("gathering", List.of(4, 5, 9, 4, 9, 0, 2, 1), () -> Checks.counts(keeper));
        keeper.apply();
        // Came: 2->2, 3->2, 3->3. Went: 0->0, 1->0, 1->1.
        checks.equal("second round", List.of(5, 5, 9, 0, 3, 3, 2, 1), () -> Checks.counts(keeper));
    }

    private static void countsSets(Checks checks) {
        ReachKeeper pairs = Checks.with(0, 31, 31, 0, 5, 6, 6, 5, 0, 5, 9, 9, 6, 9, 9, 20);
        checks.equal("two pairs and a loop, joined one way", 3, () -> pairs.count(7));
        checks.equal("those that lead to themselves", 5, () -> pairs.count(6));
        pairs.change(20, 31, true);
        pairs.apply();
        checks.equal("all joined to one", 1, () -> pairs.count(7));
        checks.equal("all lead to themselves", 6, () -> pairs.count(6));
        ReachKeeper downward = Checks.with(9, 9, 9, 3, 3, 3);
        checks.equal("two loops, joined from the higher one", 2, () -> downward.count(7));
        ReachKeeper loops = new ReachKeeper();
        for (int v = 0; v < 32; v++) {
            loops.change(v, v, true);
        }
        for (int v = 0; v < 28; v++) {
            loops.change(v, v + 1, true);
        }
        loops.apply();
        checks.equal("each loop is a set", 32, () -> loops.count(7));
        checks.equal("each loop leads to itself", 32, () -> loops.count(6));
    }

    private static void countsTheFullest(Checks checks) {
        ReachKeeper circle = Checks.greatCircle();
        checks.equal("circle", List.of(32, 32, 1024, 0, 1024, 0, 32, 1), () -> Checks.counts(circle));
        for (int v = 0; v < 32; v++) {
            circle.change(v, (v + 1) % 32, false);
        }
        circle.apply();
        checks.equal("no circle", List.of(0, 0, 0, 0, 0, 1024, 0, 0), () -> Checks.counts(circle));
    }

    private static void knowsNoOther(Checks checks) {
        ReachKeeper keeper = Checks.greatCircle();
        for (int what : new int[] {-1, 8, 9, 32, -8, Integer.MIN_VALUE, Integer.MAX_VALUE}) {
            checks.equal("count(" + what + ")", -1, () -> keeper.count(what));
        }
    }
}
