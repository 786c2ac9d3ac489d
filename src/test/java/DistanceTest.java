import java.util.NoSuchElementException;

/** Promise 8: distance tells how many edges the shortest way has, one or more. */
public final class DistanceTest {
    public static void main(String[] args) {
        Checks checks = new Checks();
        findsTheShortest(checks);
        ofSeveralAsShort(checks);
        goesRoundTheGreatCircle(checks);
        followsTheRounds(checks);
        oneOrMore(checks);
        refusesWrongVertices(checks);
        checks.end();
    }

    private static void findsTheShortest(Checks checks) {
        ReachKeeper keeper = Checks.with(0, 1, 1, 2, 2, 3, 0, 31, 31, 3, 3, 0, 5, 5, 5, 6);
        checks.equal("an edge", 1, () -> keeper.distance(0, 1));
        checks.equal("a chain", 2, () -> keeper.distance(0, 2));
        checks.equal("the shorter of two", 2, () -> keeper.distance(0, 3));
        checks.equal("back to itself", 3, () -> keeper.distance(0, 0));
        checks.equal("the longer way back", 4, () -> keeper.distance(1, 1));
        checks.equal("a loop", 1, () -> keeper.distance(5, 5));
        checks.refused("an edge's wrong side", NoSuchElementException.class, () -> keeper.distance(6, 5));
        checks.refused("itself without a way", NoSuchElementException.class, () -> keeper.distance(6, 6));
        checks.refused("another part", NoSuchElementException.class, () -> keeper.distance(0, 5));
    }

    // Two to thirty ways of two edges each, from 0 over one of the others to 31.
    private static void ofSeveralAsShort(Checks checks) {
        for (int ways = 2; ways <= 30; ways++) {
            ReachKeeper keeper = new ReachKeeper();
            for (int v = 1; v <= ways; v++) {
                Checks.more(keeper, 0, v, v, 31);
            }
            keeper.apply();
            checks.equal(ways + " ways, all as short", 2, () -> keeper.distance(0, 31));
            checks.equal(ways + " ways, an edge of one", 1, () -> keeper.distance(1, 31));
        }
    }

    private static void goesRoundTheGreatCircle(Checks checks) {
        ReachKeeper keeper = Checks.greatCircle();
        for (int v = 0; v < 32; v++) {
            int b = v;
            checks.equal("circle: distance(0, " + b + ")", b == 0 ? 32 : b, () -> keeper.distance(0, b));
            checks.equal("circle: distance(" + b + ", " + b + ")", 32, () -> keeper.distance(b, b));
        }
    }

    private static void followsTheRounds(Checks checks) {
        ReachKeeper keeper = Checks.with(0, 1, 1, 2);
        Checks.more(keeper, 0, 2);
        checks.equal("gathered alone", 2, () -> keeper.distance(0, 2));
        keeper.apply();
        checks.equal("a shorter way came", 1, () -> keeper.distance(0, 2));
        Checks.less(keeper, 0, 2);
        keeper.apply();
        checks.equal("it went", 2, () -> keeper.distance(0, 2));
        Checks.less(keeper, 1, 2);
        keeper.apply();
        checks.refused("no way is left", NoSuchElementException.class, () -> keeper.distance(0, 2));
    }

    // "(one or more)": never 0, and an edge that is there often is still one.
    private static void oneOrMore(Checks checks) {
        ReachKeeper keeper = new ReachKeeper();
        Checks.gather(keeper, 31, 31, true, 20);
        Checks.gather(keeper, 31, 0, true, 20);
        Checks.gather(keeper, 0, 31, true, 20);
        keeper.apply();
        checks.equal("a loop, shorter than there and back", 1, () -> keeper.distance(31, 31));
        checks.equal("an edge", 1, () -> keeper.distance(31, 0));
        checks.equal("there and back", 2, () -> keeper.distance(0, 0));
        Checks.gather(keeper, 31, 31, false, 20);
        keeper.apply();
        checks.equal("there and back, without the loop", 2, () -> keeper.distance(31, 31));
        Checks.gather(keeper, 31, 0, false, 20);
        keeper.apply();
        checks.refused("none back to 31", NoSuchElementException.class, () -> keeper.distance(31, 31));
        checks.refused("none back to 0", NoSuchElementException.class, () -> keeper.distance(0, 0));
        checks.equal("one there", 1, () -> keeper.distance(0, 31));
    }

    private static void refusesWrongVertices(Checks checks) {
        ReachKeeper keeper = Checks.greatCircle();
        for (int v : new int[] {-1, 32, Integer.MIN_VALUE, Integer.MAX_VALUE}) {
            checks.refused("distance(" + v + ", 0)", IllegalArgumentException.class, () -> keeper.distance(v, 0));
            checks.refused("distance(0, " + v + ")", IllegalArgumentException.class, () -> keeper.distance(0, v));
        }
        ReachKeeper empty = new ReachKeeper();
        checks.refused("bad before missing, b", IllegalArgumentException.class, () -> empty.distance(0, 32));
        checks.refused("bad before missing, a", IllegalArgumentException.class, () -> empty.distance(-1, 0));
    }
}
