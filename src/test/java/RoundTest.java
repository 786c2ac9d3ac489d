import java.util.List;

/** Terms: "A ROUND: at most 60 CHANGES are gathered, each an EDGE once more or once less", all done as one. */
public final class RoundTest {
    public static void main(String[] args) {
        Checks checks = new Checks();
        everySizeUpTo60IsTaken(checks);
        the61stIsRefused(checks);
        everyRoundHasRoomFor60(checks);
        aRoundOfNoneIsOne(checks);
        allAreDoneAsOne(checks);
        onceMoreOrOnceLess(checks);
        orderIsNothing(checks);
        checks.end();
    }

    // "at most 60 CHANGES": 0 to 60 distinct edges, each seen behind the round.
    private static void everySizeUpTo60IsTaken(Checks checks) {
        for (int i = 0; i <= 60; i++) {
            int size = i;
            ReachKeeper keeper = new ReachKeeper();
            for (int j = 1; j <= size; j++) {
                int due = j;
                checks.equal("change " + j, due, () -> keeper.change(due % 32, due / 32, true));
            }
            checks.equal("gathered of " + size, size, () -> keeper.count(3));
            keeper.apply();
            checks.equal("edges of " + size, size, () -> keeper.count(0));
            checks.equal("counts of " + size, size, () -> keeper.count(1));
            checks.equal("gathered behind " + size, 0, () -> keeper.count(3));
            for (int j = 1; j <= size; j++) {
                int due = j;
                checks.equal("edge " + j + " of " + size, 1, () -> keeper.times(due % 32, due / 32));
            }
        }
    }

    // "FULL is IndexOutOfBoundsException"
    private static void the61stIsRefused(Checks checks) {
        for (boolean filling : new boolean[] {true, false}) {
            for (boolean more : new boolean[] {true, false}) {
                ReachKeeper keeper = new ReachKeeper();
                Checks.gather(keeper, 0, 0, filling, 59);
                checks.equal("the 60th", 60, () -> keeper.change(31, 31, more));
                for (int i = 61; i < 130; i++) {
                    checks.refused("the " + i + "th", IndexOutOfBoundsException.class,
                            () -> keeper.change(31, 31, more));
                }
                checks.equal("gathered", 60, () -> keeper.count(3));
                checks.equal("forget()", 60, () -> keeper.forget());
            }
        }
    }

    private static void everyRoundHasRoomFor60(Checks checks) {
        ReachKeeper keeper = new ReachKeeper();
        for (int round = 1; round <= 3; round++) {
            fill(checks, keeper, "round " + round);
            checks.equal("apply() " + round, round == 1 ? 1 : 0, () -> keeper.apply());
            fill(checks, keeper, "forgotten round " + round);
            checks.equal("forget() " + round, 60, () -> keeper.forget());
        }
        checks.equal("times(1, 2)", 180, () -> keeper.times(1, 2));
    }

    private static void fill(Checks checks, ReachKeeper keeper, String what) {
        for (int i = 1; i <= 60; i++) {
            int due = i;
            checks.equal(what + ", change " + i, due, () -> keeper.change(1, 2, true));
        }
        checks.refused(what + ", change 61", IndexOutOfBoundsException.class, () -> keeper.change(1, 2, true));
    }

    // None is at most 60: such a round is applied too, and behind it nothing came or went.
    private static void aRoundOfNoneIsOne(Checks checks) {
        ReachKeeper keeper = Checks.with(0, 1, 1, 2);
        Checks.less(keeper, 1, 2);
        Checks.more(keeper, 3, 3);
        keeper.apply();
        checks.equal("before", List.of(2, 2, 2, 0, 1, 2, 1, 1), () -> Checks.counts(keeper));
        checks.equal("apply() of none", 0, () -> keeper.apply());
        checks.equal("behind", List.of(2, 2, 2, 0, 0, 0, 1, 1), () -> Checks.counts(keeper));
        Checks.more(keeper, 4, 4);
        keeper.forget();
        checks.equal("apply() of what was forgotten", 0, () -> keeper.apply());
        checks.equal("behind it", List.of(2, 2, 2, 0, 0, 0, 1, 1), () -> Checks.counts(keeper));
    }

    // "APPLIED, all of them are done as one": 60 changes turn a chain round, no step between is seen.
    private static void allAreDoneAsOne(Checks checks) {
        ReachKeeper keeper = new ReachKeeper();
        for (int v = 0; v < 30; v++) {
            keeper.change(v, v + 1, true);
        }
        checks.equal("the chain", 465, () -> keeper.apply());
        for (int v = 0; v < 30; v++) {
            keeper.change(v, v + 1, false);
            keeper.change(v + 1, v, true);
        }
        checks.equal("the chain turned round", 930, () -> keeper.apply());
        checks.equal("counts", List.of(30, 30, 465, 0, 465, 465, 0, 0), () -> Checks.counts(keeper));
        checks.equal("first that came", 32, () -> keeper.came(0));
        checks.equal("last that came", 30 * 32 + 29, () -> keeper.came(464));
        checks.equal("first that went", 1, () -> keeper.went(0));
        checks.equal("last that went", 29 * 32 + 30, () -> keeper.went(464));
    }

    // "each an EDGE once more or once less"
    private static void onceMoreOrOnceLess(Checks checks) {
        ReachKeeper keeper = new ReachKeeper();
        keeper.change(6, 7, true);
        keeper.apply();
        checks.equal("once more", 1, () -> keeper.times(6, 7));
        Checks.gather(keeper, 6, 7, true, 5);
        keeper.apply();
        checks.equal("five times more", 6, () -> keeper.times(6, 7));
        keeper.change(6, 7, false);
        keeper.apply();
        checks.equal("once less", 5, () -> keeper.times(6, 7));
        Checks.gather(keeper, 6, 7, false, 5);
        keeper.apply();
        checks.equal("five times less", 0, () -> keeper.times(6, 7));
    }

    // "COUNTS change by all of it": the full round's order makes no difference, nor does a count below 0 between.
    private static void orderIsNothing(Checks checks) {
        for (int order = 0; order < 3; order++) {
            ReachKeeper keeper = Checks.with(8, 8);
            for (int i = 0; i < 60; i++) {
                keeper.change(8 + i % 2, 8, isMore(order, i));
            }
            String name = "order " + order + ": ";
            checks.equal(name + "apply()", 0, () -> keeper.apply());
            checks.equal(name + "times(8, 8)", 1, () -> keeper.times(8, 8));
            checks.equal(name + "times(9, 8)", 0, () -> keeper.times(9, 8));
            checks.equal(name + "counts", List.of(1, 1, 1, 0, 0, 0, 1, 1), () -> Checks.counts(keeper));
        }
    }

    /** More first, less first, or by turns. */
    private static boolean isMore(int order, int i) {
        switch (order) {
            case 0:
                return i < 30;
            case 1:
                return i >= 30;
            default:
                return i % 4 < 2;
        }
    }
}
