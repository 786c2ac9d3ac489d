/** Terms: "VERTICES 0 .. 31" and "Bad": no such VERTEX, in all calls that are given two of them. */
public final class VerticesTest {
    private static final String[] NAMES = {"change more", "change less", "holds", "distance", "times"};
    private static final Checks.PairCall[] CALLS = {
        (keeper, a, b) -> keeper.change(a, b, true),
        (keeper, a, b) -> keeper.change(a, b, false),
        (keeper, a, b) -> keeper.holds(a, b),
        (keeper, a, b) -> keeper.distance(a, b),
        (keeper, a, b) -> keeper.times(a, b)};

    public static void main(String[] args) {
        Checks checks = new Checks();
        takesEveryPair(checks);
        keepsEveryEdgeApart(checks);
        for (int i = 0; i < CALLS.length; i++) {
            refusesFirstBeyond(checks, NAMES[i], CALLS[i]);
            refusesAllOthers(checks, NAMES[i], CALLS[i]);
            refusesWrapAround(checks, NAMES[i], CALLS[i]);
        }
        checks.end();
    }

    // "VERTICES 0 .. 31": each of the 1024 pairs is taken.
    private static void takesEveryPair(Checks checks) {
        for (int row = 0; row < 32; row++) {
            int a = row;
            ReachKeeper circle = Checks.greatCircle();
            ReachKeeper fresh = new ReachKeeper();
            for (int column = 0; column < 32; column++) {
                int b = column;
                String ends = "(" + a + ", " + b + ")";
                checks.equal("holds" + ends, true, () -> circle.holds(a, b));
                checks.equal("distance" + ends, 1 + (b - a + 31) % 32, () -> circle.distance(a, b));
                checks.equal("times" + ends, b == (a + 1) % 32 ? 1 : 0, () -> circle.times(a, b));
                checks.equal("change" + ends + " more", b + 1, () -> fresh.change(a, b, true));
            }
            fresh.forget();
            for (int column = 0; column < 32; column++) {
                int b = column;
                checks.equal("change(" + a + ", " + b + ") less", b + 1, () -> fresh.change(a, b, false));
            }
        }
    }

    // No edge stands for another: one edge alone is seen at its own place and at no other.
    private static void keepsEveryEdgeApart(Checks checks) {
        for (int pair = 0; pair < 1024; pair++) {
            int a = pair / 32;
            int b = pair % 32;
            ReachKeeper keeper = Checks.with(a, b);
            String ends = "(" + a + ", " + b + ") alone: ";
            checks.equal(ends + "came(0)", pair, () -> keeper.came(0));
            checks.equal(ends + "edges", 1, () -> keeper.count(0));
            checks.equal(ends + "pairs", 1, () -> keeper.count(2));
            checks.equal(ends + "loops", a == b ? 1 : 0, () -> keeper.count(6));
            checks.equal(ends + "times", 1, () -> keeper.times(a, b));
            checks.equal(ends + "holds", true, () -> keeper.holds(a, b));
            checks.equal(ends + "distance", 1, () -> keeper.distance(a, b));
            checks.equal(ends + "times of another", a == b ? 1 : 0, () -> keeper.times(b, a));
            checks.equal(ends + "holds of another", a == b, () -> keeper.holds(b, a));
        }
    }

    // The last allowed and the first refused value on each side, at both places.
    private static void refusesFirstBeyond(Checks checks, String name, Checks.PairCall call) {
        ReachKeeper keeper = Checks.greatCircle();
        int[] last = {0, 31};
        int[] beyond = {-1, 32};
        for (int good : last) {
            for (int other : last) {
                Object answer = Checks.outcome(() -> call.answer(keeper, good, other));
                checks.equal(name + "(" + good + ", " + other + ") is taken", false, () -> answer instanceof Class);
            }
            for (int bad : beyond) {
                refused(checks, name, call, keeper, bad, good);
                refused(checks, name, call, keeper, good, bad);
            }
        }
        for (int bad : beyond) {
            for (int other : beyond) {
                refused(checks, name, call, keeper, bad, other);
            }
        }
    }

    private static void refusesAllOthers(Checks checks, String name, Checks.PairCall call) {
        ReachKeeper keeper = Checks.greatCircle();
        for (int bad : Checks.NO_VERTICES) {
            for (int good : new int[] {0, 1, 16, 31}) {
                refused(checks, name, call, keeper, bad, good);
                refused(checks, name, call, keeper, good, bad);
            }
            refused(checks, name, call, keeper, bad, bad);
        }
    }

    private static void refusesWrapAround(Checks checks, String name, Checks.PairCall call) {
        ReachKeeper keeper = Checks.greatCircle();
        for (int[] pair : Checks.NO_PAIRS) {
            refused(checks, name, call, keeper, pair[0], pair[1]);
        }
    }

    private static void refused(Checks checks, String name, Checks.PairCall call, ReachKeeper keeper, int a, int b) {
        checks.refused(name + "(" + a + ", " + b + ")", IllegalArgumentException.class,
                () -> call.answer(keeper, a, b));
    }
}
