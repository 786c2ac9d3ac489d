import java.util.List;

/** Promise 3: forget drops what's gathered and answers how many it were. */
public final class ForgetTest {
    public static void main(String[] args) {
        Checks checks = new Checks();
        leavesWhatIsApplied(checks);
        makesRoomInAFullRound(checks);
        endsAConflict(checks);
        answersHowManyItWere(checks);
        leavesCameAndWent(checks);
        checks.end();
    }

    private static void leavesWhatIsApplied(Checks checks) {
        ReachKeeper keeper = Checks.with(0, 1, 1, 0);
        Checks.more(keeper, 3, 4);
        Checks.less(keeper, 0, 1);
        checks.equal("forget()", 2, () -> keeper.forget());
        checks.equal("forget() again", 0, () -> keeper.forget());
        checks.equal("counts", List.of(2, 2, 4, 0, 4, 0, 2, 1), () -> Checks.counts(keeper));
        checks.equal("came", List.of(0, 1, 32, 33), () -> Checks.allCame(keeper));
        checks.equal("change", 1, () -> keeper.change(3, 4, true));
        checks.equal("apply()", 1, () -> keeper.apply());
        checks.equal("times(3, 4)", 1, () -> keeper.times(3, 4));
        checks.equal("times(0, 1)", 1, () -> keeper.times(0, 1));
    }

    private static void makesRoomInAFullRound(Checks checks) {
        ReachKeeper keeper = new ReachKeeper();
        for (int i = 0; i < 60; i++) {
            keeper.change(i % 32, 7, true);
        }
        checks.equal("forget() of a full round", 60, () -> keeper.forget());
        checks.equal("change", 1, () -> keeper.change(2, 2, true));
        checks.equal("apply()", 1, () -> keeper.apply());
        checks.equal("counts", List.of(1, 1, 1, 0, 1, 0, 1, 1), () -> Checks.counts(keeper));
    }

    private static void endsAConflict(Checks checks) {
        ReachKeeper keeper = new ReachKeeper();
        keeper.change(8, 9, false);
        checks.refused("apply()", IllegalStateException.class, () -> keeper.apply());
        checks.equal("forget()", 1, () -> keeper.forget());
        checks.equal("apply() of nothing", 0, () -> keeper.apply());
        keeper.change(8, 9, true);
        checks.equal("apply()", 1, () -> keeper.apply());
    }

    // "Answers how many it were": from none to a full round, and none the second time.
    private static void answersHowManyItWere(Checks checks) {
        for (int size = 0; size <= 60; size++) {
            int due = size;
            ReachKeeper keeper = new ReachKeeper();
            Checks.gather(keeper, 31, 0, size % 2 == 0, size);
            checks.equal("forget() of " + size, due, () -> keeper.forget());
            checks.equal("gathered behind it", 0, () -> keeper.count(3));
            checks.equal("forget() again", 0, () -> keeper.forget());
            checks.equal("apply() of nothing", 0, () -> keeper.apply());
            checks.equal("counts", List.of(0, 0, 0, 0, 0, 0, 0, 0), () -> Checks.counts(keeper));
        }
        ReachKeeper full = new ReachKeeper();
        Checks.gather(full, 31, 0, true, 60);
        checks.refused("the 61st", IndexOutOfBoundsException.class, () -> full.change(31, 0, true));
        checks.equal("forget() counts no refused change", 60, () -> full.forget());
    }

    // "What's gathered is forgotten", and nothing else.
    private static void leavesCameAndWent(Checks checks) {
        ReachKeeper keeper = Checks.with(0, 1);
        Checks.less(keeper, 0, 1);
        Checks.more(keeper, 1, 0);
        keeper.apply();
        for (int i = 0; i < 2; i++) {
            keeper.forget();
            checks.equal("counts", List.of(1, 1, 1, 0, 1, 1, 0, 0), () -> Checks.counts(keeper));
            checks.equal("came(0)", 32, () -> keeper.came(0));
            checks.equal("went(0)", 1, () -> keeper.went(0));
            Checks.more(keeper, 0, 1);
        }
    }
}
