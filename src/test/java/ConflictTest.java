import java.util.List;

/** Terms: "if one would be below 0, that's a CONFLICT", and promise 4: "CONFLICT: it stays gathered". */
public final class ConflictTest {
    public static void main(String[] args) {
        Checks checks = new Checks();
        exactly0IsNone(checks);
        oneBelow0IsOne(checks);
        anyEdgeMayBeTheOne(checks);
        anyPlaceInTheRoundMayHoldIt(checks);
        manyDoNotMakeUpForOne(checks);
        theSumAloneIsLookedAt(checks);
        itStaysGathered(checks);
        nothingOfItIsDone(checks);
        aFullRoundStaysFull(checks);
        forgetEndsIt(checks);
        checks.end();
    }

    // The last count that is allowed is 0, from each count that a round can take away.
    private static void exactly0IsNone(Checks checks) {
        for (int count : new int[] {1, 2, 59, 60}) {
            ReachKeeper keeper = new ReachKeeper();
            Checks.gather(keeper, 31, 31, true, count);
            keeper.apply();
            Checks.gather(keeper, 31, 31, false, count);
            checks.equal(count + " less of " + count, 1, () -> keeper.apply());
            checks.equal("times behind it", 0, () -> keeper.times(31, 31));
        }
    }

    // The first that is refused is -1.
    private static void oneBelow0IsOne(Checks checks) {
        for (int count : new int[] {0, 1, 2, 58, 59}) {
            ReachKeeper keeper = new ReachKeeper();
            Checks.gather(keeper, 31, 31, true, count);
            keeper.apply();
            Checks.gather(keeper, 31, 31, false, count + 1);
            checks.refused(count + 1 + " less of " + count, IllegalStateException.class, () -> keeper.apply());
            checks.equal("times behind it", count, () -> keeper.times(31, 31));
        }
        ReachKeeper deepest = new ReachKeeper();
        Checks.gather(deepest, 0, 0, false, 60);
        checks.refused("60 less of 0", IllegalStateException.class, () -> deepest.apply());
    }

    private static void anyEdgeMayBeTheOne(Checks checks) {
        for (int pair = 0; pair < 1024; pair++) {
            int a = pair / 32;
            int b = pair % 32;
            ReachKeeper keeper = Checks.with(b, (a + 1) % 32);
            int there = keeper.times(a, b);
            Checks.gather(keeper, a, b, false, there + 1);
            checks.refused("conflict at (" + a + ", " + b + ")", IllegalStateException.class, () -> keeper.apply());
        }
    }

    private static void anyPlaceInTheRoundMayHoldIt(Checks checks) {
        for (int place = 0; place < 60; place++) {
            ReachKeeper keeper = new ReachKeeper();
            for (int i = 0; i < 60; i++) {
                keeper.change(i % 32, i == place ? 2 : i / 32, i != place);
            }
            checks.refused("conflict at place " + place, IllegalStateException.class, () -> keeper.apply());
            checks.equal("counts", List.of(0, 0, 0, 60, 0, 0, 0, 0), () -> Checks.counts(keeper));
        }
    }

    // "if one would be below 0": each edge for itself, not the counts in all.
    private static void manyDoNotMakeUpForOne(Checks checks) {
        ReachKeeper keeper = Checks.with(0, 1, 0, 1, 1, 0);
        Checks.more(keeper, 0, 1, 0, 1, 1, 1);
        Checks.less(keeper, 0, 0);
        checks.refused("one of many", IllegalStateException.class, () -> keeper.apply());
        ReachKeeper mirrored = Checks.with(4, 5);
        Checks.less(mirrored, 5, 4);
        checks.refused("the edge's other side", IllegalStateException.class, () -> mirrored.apply());
        ReachKeeper way = Checks.with(4, 5, 5, 6);
        Checks.less(way, 4, 6);
        checks.refused("a pair that holds without an edge", IllegalStateException.class, () -> way.apply());
    }

    // "COUNTS change by all of it": what is below 0 only between is no conflict.
    private static void theSumAloneIsLookedAt(Checks checks) {
        ReachKeeper keeper = new ReachKeeper();
        Checks.gather(keeper, 7, 7, false, 30);
        Checks.gather(keeper, 7, 7, true, 30);
        checks.equal("30 less, 30 more", 0, () -> keeper.apply());
        checks.equal("times", 0, () -> keeper.times(7, 7));
        Checks.gather(keeper, 7, 7, true, 29);
        Checks.gather(keeper, 7, 7, false, 30);
        checks.refused("29 more, 30 less", IllegalStateException.class, () -> keeper.apply());
        checks.equal("one more", 60, () -> keeper.change(7, 7, true));
        checks.equal("30 more, 30 less", 0, () -> keeper.apply());
        checks.equal("times still", 0, () -> keeper.times(7, 7));
    }

    // "CONFLICT: it stays gathered": it can be refused again, and be mended by a change more.
    private static void itStaysGathered(Checks checks) {
        ReachKeeper keeper = Checks.with(0, 1);
        Checks.less(keeper, 0, 1, 0, 1, 0, 1);
        Checks.more(keeper, 2, 3);
        for (int i = 0; i < 5; i++) {
            checks.refused("apply() " + i, IllegalStateException.class, () -> keeper.apply());
            checks.equal("gathered " + i, 4, () -> keeper.count(3));
        }
        checks.equal("one more", 5, () -> keeper.change(0, 1, true));
        checks.refused("still a conflict", IllegalStateException.class, () -> keeper.apply());
        checks.equal("two more", 6, () -> keeper.change(0, 1, true));
        checks.equal("no conflict", 2, () -> keeper.apply());
        checks.equal("counts", List.of(1, 1, 1, 0, 1, 1, 0, 0), () -> Checks.counts(keeper));
        checks.equal("times(0, 1)", 0, () -> keeper.times(0, 1));
        checks.equal("times(2, 3)", 1, () -> keeper.times(2, 3));
    }

    // "A refused call changes nothing.": what came before the conflict in its round isn't done either.
    private static void nothingOfItIsDone(Checks checks) {
        ReachKeeper keeper = Checks.with(0, 1, 5, 5);
        Checks.less(keeper, 0, 1);
        keeper.apply();
        Checks.more(keeper, 0, 1, 1, 2);
        Checks.less(keeper, 5, 5, 31, 31);
        Checks.more(keeper, 2, 0);
        checks.refused("conflict", IllegalStateException.class, () -> keeper.apply());
        checks.equal("counts", List.of(1, 1, 1, 5, 0, 1, 1, 1), () -> Checks.counts(keeper));
        checks.equal("times(0, 1)", 0, () -> keeper.times(0, 1));
        checks.equal("times(5, 5)", 1, () -> keeper.times(5, 5));
        checks.equal("times(2, 0)", 0, () -> keeper.times(2, 0));
        checks.equal("went(0) is the earlier round's", 1, () -> keeper.went(0));
        checks.equal("forget()", 5, () -> keeper.forget());
        checks.equal("nothing is left of it", 0, () -> keeper.apply());
        checks.equal("counts behind it", List.of(1, 1, 1, 0, 0, 0, 1, 1), () -> Checks.counts(keeper));
    }

    private static void aFullRoundStaysFull(Checks checks) {
        ReachKeeper keeper = new ReachKeeper();
        Checks.gather(keeper, 0, 1, true, 59);
        keeper.change(1, 0, false);
        checks.refused("apply()", IllegalStateException.class, () -> keeper.apply());
        checks.refused("no room to mend it", IndexOutOfBoundsException.class, () -> keeper.change(1, 0, true));
        checks.refused("apply() again", IllegalStateException.class, () -> keeper.apply());
        checks.equal("forget()", 60, () -> keeper.forget());
        checks.equal("change", 1, () -> keeper.change(1, 0, true));
        checks.equal("apply() of the one", 1, () -> keeper.apply());
    }

    private static void forgetEndsIt(Checks checks) {
        ReachKeeper keeper = Checks.with(3, 3);
        Checks.less(keeper, 3, 3, 3, 3);
        checks.refused("apply()", IllegalStateException.class, () -> keeper.apply());
        checks.equal("forget()", 2, () -> keeper.forget());
        Checks.less(keeper, 3, 3);
        checks.equal("once less is no conflict", 1, () -> keeper.apply());
        checks.equal("times(3, 3)", 0, () -> keeper.times(3, 3));
    }
}
