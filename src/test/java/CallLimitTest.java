import java.util.NoSuchElementException;

/** "An object is used for at most 512 calls after it has been made": the 512th still answers what is due. */
public final class CallLimitTest {
    private static final int CALLS = 512;

    private final Checks checks = new Checks();

    public static void main(String[] args) {
        CallLimitTest test = new CallLimitTest();
        test.lastCallOfEachKind();
        test.lastCallRefused();
        test.lastCallCounts();
        test.oneKindAllTheTime();
        test.asManyEdgesAsCallsAllow();
        test.checks.end();
    }

    /** The question is call number 512; before the run stand calls that leave a new object as it is. */
    private void last(String what, Object due, int runCalls, Checks.Run run, Checks.Question question) {
        ReachKeeper keeper = new ReachKeeper();
        for (int i = 0; i < CALLS - 1 - runCalls; i++) {
            idle(keeper, i);
        }
        run.on(keeper);
        checks.equal("call 512: " + what, due, () -> question.answer(keeper));
    }

    private static void idle(ReachKeeper keeper, int kind) {
        switch (kind % 4) {
            case 0:
                keeper.apply();
                break;
            case 1:
                keeper.forget();
                break;
            case 2:
                Checks.outcome(() -> keeper.change(0, 32, true));
                break;
            default:
                keeper.count(7);
                break;
        }
    }

    private static void circle(ReachKeeper keeper) {
        Checks.gatherCircle(keeper, true);
        keeper.apply();
    }

    private static void circleGone(ReachKeeper keeper) {
        circle(keeper);
        Checks.gatherCircle(keeper, false);
        keeper.apply();
    }

    private void lastCallOfEachKind() {
        last("change", 60, 59, keeper -> Checks.gather(keeper, 1, 1, true, 59), keeper -> keeper.change(1, 1, true));
        last("forget", 60, 60, keeper -> Checks.gather(keeper, 1, 1, true, 60), keeper -> keeper.forget());
        last("apply, all came", 1024, 32, keeper -> Checks.gatherCircle(keeper, true), keeper -> keeper.apply());
        last("apply, none", 0, 0, keeper -> { }, keeper -> keeper.apply());
        last("holds", true, 33, keeper -> circle(keeper), keeper -> keeper.holds(31, 31));
        last("holds not", false, 66, keeper -> circleGone(keeper), keeper -> keeper.holds(0, 31));
        last("came", 1023, 33, keeper -> circle(keeper), keeper -> keeper.came(1023));
        last("went", 1023, 66, keeper -> circleGone(keeper), keeper -> keeper.went(1023));
        last("distance", 32, 33, keeper -> circle(keeper), keeper -> keeper.distance(31, 31));
        last("times", 1, 33, keeper -> circle(keeper), keeper -> keeper.times(31, 0));
    }

    private void lastCallRefused() {
        last("change, full", IndexOutOfBoundsException.class, 60, keeper -> Checks.gather(keeper, 1, 1, true, 60),
                keeper -> keeper.change(1, 1, true));
        last("change, bad", IllegalArgumentException.class, 0, keeper -> { }, keeper -> keeper.change(32, 1, true));
        last("apply, conflict", IllegalStateException.class, 60, keeper -> Checks.gather(keeper, 1, 1, false, 60),
                keeper -> keeper.apply());
        last("holds, bad", IllegalArgumentException.class, 0, keeper -> { }, keeper -> keeper.holds(0, -1));
        last("came, missing", NoSuchElementException.class, 33, keeper -> circle(keeper), keeper -> keeper.came(1024));
        last("went, missing", NoSuchElementException.class, 33, keeper -> circle(keeper), keeper -> keeper.went(0));
        last("distance, missing", NoSuchElementException.class, 66, keeper -> circleGone(keeper),
                keeper -> keeper.distance(0, 1));
        last("distance, bad", IllegalArgumentException.class, 0, keeper -> { }, keeper -> keeper.distance(32, 32));
        last("times, bad", IllegalArgumentException.class, 0, keeper -> { }, keeper -> keeper.times(-1, -1));
    }

    private void lastCallCounts() {
        int[] due = {-1, 32, 32, 1024, 0, 1024, 0, 32, 1, -1};
        for (int what = -1; what <= 8; what++) {
            int number = what;
            last("count(" + what + ")", due[what + 1], 33, keeper -> circle(keeper), keeper -> keeper.count(number));
        }
        last("count(3) of 60", 60, 60, keeper -> Checks.gather(keeper, 1, 1, true, 60), keeper -> keeper.count(3));
        last("count(5) of all", 1024, 66, keeper -> circleGone(keeper), keeper -> keeper.count(5));
    }

    private void oneKindAllTheTime() {
        ReachKeeper changed = new ReachKeeper();
        ReachKeeper forgotten = new ReachKeeper();
        ReachKeeper applied = new ReachKeeper();
        ReachKeeper conflicting = new ReachKeeper();
        conflicting.change(0, 0, false);
        for (int i = 1; i <= CALLS; i++) {
            Object due = i <= 60 ? (Object) i : IndexOutOfBoundsException.class;
            checks.equal("change " + i, due, () -> changed.change(31, 31, true));
            checks.equal("forget " + i, 0, () -> forgotten.forget());
            checks.equal("apply " + i, 0, () -> applied.apply());
        }
        for (int i = 2; i <= CALLS; i++) {
            checks.refused("conflict " + i, IllegalStateException.class, () -> conflicting.apply());
        }
    }

    // Eight full rounds and one of 22 are 511 calls: 502 changes.
    private void asManyEdgesAsCallsAllow() {
        int changes = 502;
        ReachKeeper same = new ReachKeeper();
        ReachKeeper counted = new ReachKeeper();
        ReachKeeper different = new ReachKeeper();
        for (int i = 0; i < changes; i++) {
            same.change(17, 4, true);
            counted.change(i % 32, 31 - i / 32, true);
            different.change(i / 32, i % 32, true);
            if (i % 60 == 59 || i == changes - 1) {
                same.apply();
                counted.apply();
                different.apply();
            }
        }
        checks.equal("the greatest count", changes, () -> same.times(17, 4));
        checks.equal("the greatest sum of counts", changes, () -> counted.count(1));
        checks.equal("the most edges", changes, () -> different.count(0));
    }
}
