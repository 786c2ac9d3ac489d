import java.util.List;

/** Promise 3: forget drops what's gathered and answers how many it were. */
public final class ForgetTest {
    public static void main(String[] args) {
        Checks checks = new Checks();
        leavesWhatIsApplied(checks);
        makesRoomInAFullRound(checks);
        endsAConflict(checks);
        checks.end();
    }

    private static void leavesWhatIsApplied(Checks checks) {
        ReachKeeper keeper = Checks.with(0, 1, 1, 0);
        Checks.more(keeper, 3, 4);
        Checks.less(keeper, 0, 1);
        checks.equal("forget()", 2, () -> keeper.forget());
        checks.equal("forget() again", 0, () -> keeper.forget());
        checks.equal("counts", List.of(2, 2, 4, 0, 4, 0, 2, 1), () -> Checks.counts(keeper));
        checks.equal("came", List.of(0, 1, 32, 33), () -> Checks.allCame(keeper));
        checks.equal("change", 1, () -> keeper.change(3, 4, true));
        checks.equal("apply()", 1, () -> keeper.apply());
        checks.equal("times(3, 4)", 1, () -> keeper.times(3, 4));
        checks.equal("times(0, 1)", 1, () -> keeper.times(0, 1));
    }

    private static void makesRoomInAFullRound(Checks checks) {
        ReachKeeper keeper = new ReachKeeper();
        for (int i = 0; i < 60; i++) {
            keeper.change(i % 32, 7, true);
        }
        checks.equal("forget() of a full round", 60, () -> keeper.forget());
        checks.equal("change", 1, () -> keeper.change(2, 2, true));
        checks.equal("apply()", 1, () -> keeper.apply());
        checks.equal("counts", List.of(1, 1, 1, 0, 1, 0, 1, 1), () -> Checks.counts(keeper));
    }

    private static void endsAConflict(Checks checks) {
        ReachKeeper keeper = new ReachKeeper();
        keeper.change(8, 9, false);
        checks.refused("apply()", IllegalStateException.class, () -> keeper.apply());
        checks.equal("forget()", 1, () -> keeper.forget());
        checks.equal("apply() of nothing", 0, () -> keeper.apply());
        keeper.change(8, 9, true);
        checks.equal("apply()", 1, () -> keeper.apply());
    }
}
