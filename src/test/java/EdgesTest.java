import java.util.List;
import java.util.NoSuchElementException;

/** Terms: what an EDGE is, how its COUNT makes it one, and when a PAIR HOLDS. */
public final class EdgesTest {
    public static void main(String[] args) {
        Checks checks = new Checks();
        fromAVertexToTheSame(checks);
        isOneAsLongAsItsCountIsAbove0(checks);
        manyTimesIsStillOne(checks);
        aWayOfNoEdgesDoesNotHold(checks);
        aWayOfOneEdgeHolds(checks);
        theLongestWaysHold(checks);
        aWayHasADirection(checks);
        checks.end();
    }

    // "EDGES: from a VERTEX to one (perhaps the same)"
    private static void fromAVertexToTheSame(Checks checks) {
        for (int v = 0; v < 32; v++) {
            int a = v;
            ReachKeeper keeper = Checks.with(a, a);
            checks.equal("loop at " + a, List.of(1, 1, 1, 0, 1, 0, 1, 1), () -> Checks.counts(keeper));
            checks.equal("holds(" + a + ", " + a + ")", true, () -> keeper.holds(a, a));
            checks.equal("distance(" + a + ", " + a + ")", 1, () -> keeper.distance(a, a));
        }
    }

    // "it's one as long as COUNT is above 0": 0 is none, 1 and 2 are one, and the same on the way down.
    private static void isOneAsLongAsItsCountIsAbove0(Checks checks) {
        ReachKeeper keeper = new ReachKeeper();
        boolean[] more = {true, true, false, false, true};
        int[] counts = {1, 2, 1, 0, 1};
        for (int i = 0; i < more.length; i++) {
            int count = counts[i];
            int edges = count > 0 ? 1 : 0;
            keeper.change(31, 0, more[i]);
            keeper.apply();
            String step = "step " + i + ": ";
            checks.equal(step + "times", count, () -> keeper.times(31, 0));
            checks.equal(step + "edges", edges, () -> keeper.count(0));
            checks.equal(step + "counts in all", count, () -> keeper.count(1));
            checks.equal(step + "pairs", edges, () -> keeper.count(2));
            checks.equal(step + "holds", count > 0, () -> keeper.holds(31, 0));
            Object due = count > 0 ? 1 : NoSuchElementException.class;
            checks.equal(step + "distance", due, () -> keeper.distance(31, 0));
        }
    }

    // "each with a COUNT: how often it's there"
    private static void manyTimesIsStillOne(Checks checks) {
        ReachKeeper keeper = new ReachKeeper();
        Checks.gather(keeper, 3, 4, true, 60);
        checks.equal("one pair came", 1, () -> keeper.apply());
        checks.equal("counts", List.of(1, 60, 1, 0, 1, 0, 0, 0), () -> Checks.counts(keeper));
        checks.equal("distance", 1, () -> keeper.distance(3, 4));
        Checks.gather(keeper, 3, 4, false, 59);
        checks.equal("59 less", 0, () -> keeper.apply());
        checks.equal("it is there once", true, () -> keeper.holds(3, 4));
        Checks.gather(keeper, 3, 4, false, 1);
        checks.equal("the last one less", 1, () -> keeper.apply());
        checks.equal("it is not there", false, () -> keeper.holds(3, 4));
    }

    // "a way of one or more EDGES": a vertex doesn't lead to itself by standing still.
    private static void aWayOfNoEdgesDoesNotHold(Checks checks) {
        ReachKeeper chain = Checks.with(0, 1, 1, 31);
        for (int v : new int[] {0, 1, 31, 2, 30}) {
            checks.equal("holds(" + v + ", " + v + ")", false, () -> chain.holds(v, v));
            checks.refused("distance(" + v + ", " + v + ")", NoSuchElementException.class,
                    () -> chain.distance(v, v));
        }
        checks.equal("none leads to itself", 0, () -> chain.count(6));
        checks.equal("no set", 0, () -> chain.count(7));
    }

    private static void aWayOfOneEdgeHolds(Checks checks) {
        ReachKeeper keeper = Checks.with(0, 31);
        checks.equal("holds(0, 31)", true, () -> keeper.holds(0, 31));
        checks.equal("no more pairs", 1, () -> keeper.count(2));
    }

    // The longest chain has 31 edges, the longest way back to where it began has 32, in either direction.
    private static void theLongestWaysHold(Checks checks) {
        for (int step : new int[] {1, 31, 13, 19}) {
            ReachKeeper chain = new ReachKeeper();
            for (int i = 0; i < 31; i++) {
                chain.change(i * step % 32, (i + 1) * step % 32, true);
            }
            int end = 31 * step % 32;
            String name = "step " + step + ": ";
            checks.equal(name + "all that come later in the chain", 496, () -> chain.apply());
            checks.equal(name + "holds(0, end)", true, () -> chain.holds(0, end));
            checks.equal(name + "distance(0, end)", 31, () -> chain.distance(0, end));
            checks.equal(name + "holds(end, 0)", false, () -> chain.holds(end, 0));
            checks.equal(name + "holds(0, 0)", false, () -> chain.holds(0, 0));
            chain.change(end, 0, true);
            checks.equal(name + "all others", 528, () -> chain.apply());
            checks.equal(name + "holds(0, 0) in the circle", true, () -> chain.holds(0, 0));
            checks.equal(name + "distance(0, 0)", 32, () -> chain.distance(0, 0));
            checks.equal(name + "distance(end, end)", 32, () -> chain.distance(end, end));
            checks.equal(name + "distance(end, 0)", 1, () -> chain.distance(end, 0));
        }
    }

    // "leads from a to b"
    private static void aWayHasADirection(Checks checks) {
        ReachKeeper keeper = Checks.with(2, 1, 1, 0);
        checks.equal("holds(2, 0)", true, () -> keeper.holds(2, 0));
        checks.equal("holds(0, 2)", false, () -> keeper.holds(0, 2));
        checks.refused("distance(0, 2)", NoSuchElementException.class, () -> keeper.distance(0, 2));
        ReachKeeper meeting = Checks.with(0, 5, 9, 5);
        checks.equal("two edges that meet make no way", 2, () -> meeting.count(2));
    }
}
