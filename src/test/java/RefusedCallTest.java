import java.util.List;
import java.util.NoSuchElementException;

/** Terms: "A refused call changes nothing.", for every call that can be refused, in states from empty to full. */
public final class RefusedCallTest {
    private final Checks checks = new Checks();

    public static void main(String[] args) {
        RefusedCallTest test = new RefusedCallTest();
        test.everyRefusal("new object", keeper -> { });
        test.everyRefusal("edges", keeper -> edges(keeper));
        test.everyRefusal("two rounds", keeper -> twoRounds(keeper));
        test.everyRefusal("some gathered", keeper -> someGathered(keeper));
        test.everyRefusal("full round", keeper -> fullRound(keeper));
        test.everyRefusal("all pairs hold", keeper -> circle(keeper));
        test.everyRefusal("all pairs went", keeper -> circleGone(keeper));
        test.everyRefusal("conflict", keeper -> conflict(keeper));
        test.everyRefusal("full round with a conflict", keeper -> fullConflict(keeper));
        test.distanceMissing();
        test.changeFull();
        test.applyConflict();
        test.checks.end();
    }

    private static void edges(ReachKeeper keeper) {
        Checks.more(keeper, 0, 1, 1, 2, 1, 2, 31, 31, 9, 9);
        keeper.apply();
    }

    private static void twoRounds(ReachKeeper keeper) {
        edges(keeper);
        Checks.less(keeper, 0, 1, 1, 2);
        Checks.more(keeper, 31, 0, 2, 1);
        keeper.apply();
    }

    private static void someGathered(ReachKeeper keeper) {
        twoRounds(keeper);
        Checks.more(keeper, 5, 6, 0, 0);
        Checks.less(keeper, 1, 2, 31, 31);
    }

    private static void fullRound(ReachKeeper keeper) {
        twoRounds(keeper);
        Checks.less(keeper, 1, 2);
        Checks.gather(keeper, 0, 0, true, 29);
        Checks.gather(keeper, 30, 3, true, 30);
    }

    private static void circle(ReachKeeper keeper) {
        Checks.gatherCircle(keeper, true);
        keeper.apply();
    }

    private static void circleGone(ReachKeeper keeper) {
        circle(keeper);
        Checks.gatherCircle(keeper, false);
        keeper.apply();
    }

    private static void conflict(ReachKeeper keeper) {
        someGathered(keeper);
        Checks.less(keeper, 9, 9, 9, 9);
    }

    private static void fullConflict(ReachKeeper keeper) {
        twoRounds(keeper);
        Checks.gather(keeper, 0, 0, true, 58);
        Checks.less(keeper, 9, 9, 9, 9);
    }

    /** The calls that are refused in any state. */
    private void everyRefusal(String state, Checks.Run run) {
        List<Object> before = Snapshot.of(run);
        badPairs(state + ": change more", run, before, (keeper, a, b) -> keeper.change(a, b, true));
        badPairs(state + ": change less", run, before, (keeper, a, b) -> keeper.change(a, b, false));
        badPairs(state + ": holds", run, before, (keeper, a, b) -> keeper.holds(a, b));
        badPairs(state + ": distance", run, before, (keeper, a, b) -> keeper.distance(a, b));
        badPairs(state + ": times", run, before, (keeper, a, b) -> keeper.times(a, b));
        ReachKeeper asked = new ReachKeeper();
        run.on(asked);
        int cameSize = asked.count(4);
        int wentSize = asked.count(5);
        for (int i : new int[] {-1, Integer.MIN_VALUE, Integer.MAX_VALUE}) {
            refusal(state + ": came(" + i + ")", run, before, keeper -> keeper.came(i), NoSuchElementException.class);
            refusal(state + ": went(" + i + ")", run, before, keeper -> keeper.went(i), NoSuchElementException.class);
        }
        refusal(state + ": came behind its last", run, before, keeper -> keeper.came(cameSize),
                NoSuchElementException.class);
        refusal(state + ": went behind its last", run, before, keeper -> keeper.went(wentSize),
                NoSuchElementException.class);
    }

    private void badPairs(String what, Checks.Run run, List<Object> before, Checks.PairCall call) {
        Class<IllegalArgumentException> kind = IllegalArgumentException.class;
        refusal(what + "(-1, 0)", run, before, keeper -> call.answer(keeper, -1, 0), kind);
        refusal(what + "(0, 32)", run, before, keeper -> call.answer(keeper, 0, 32), kind);
        refusal(what + "(32, 31)", run, before, keeper -> call.answer(keeper, 32, 31), kind);
        refusal(what + "(1, -1)", run, before, keeper -> call.answer(keeper, 1, -1), kind);
    }

    private void distanceMissing() {
        Checks.Run[] states = {keeper -> { }, keeper -> twoRounds(keeper), keeper -> conflict(keeper)};
        for (Checks.Run run : states) {
            List<Object> before = Snapshot.of(run);
            refusal("no way to itself", run, before, keeper -> keeper.distance(30, 30), NoSuchElementException.class);
            refusal("no way to another", run, before, keeper -> keeper.distance(2, 31), NoSuchElementException.class);
        }
    }

    private void changeFull() {
        Checks.Run[] states = {keeper -> fullRound(keeper), keeper -> fullConflict(keeper)};
        for (Checks.Run run : states) {
            List<Object> before = Snapshot.of(run);
            refusal("61st: an edge more", run, before, keeper -> keeper.change(0, 0, true),
                    IndexOutOfBoundsException.class);
            refusal("61st: an edge less", run, before, keeper -> keeper.change(0, 0, false),
                    IndexOutOfBoundsException.class);
            refusal("61st: what would be a conflict", run, before, keeper -> keeper.change(20, 20, false),
                    IndexOutOfBoundsException.class);
            refusal("61st: what would end a conflict", run, before, keeper -> keeper.change(9, 9, true),
                    IndexOutOfBoundsException.class);
        }
    }

    private void applyConflict() {
        Checks.Run[] states = {keeper -> conflict(keeper), keeper -> fullConflict(keeper),
            keeper -> keeper.change(9, 9, false)};
        for (Checks.Run run : states) {
            refusal("apply() with a conflict", run, Snapshot.of(run), keeper -> keeper.apply(),
                    IllegalStateException.class);
        }
    }

    /** A refused call three times over, for what it changed might be seen only when it is done again. */
    private void refusal(String what, Checks.Run run, List<Object> before, Checks.Question call,
            Class<? extends RuntimeException> kind) {
        ReachKeeper once = new ReachKeeper();
        run.on(once);
        for (int i = 0; i < 3; i++) {
            checks.refused(what, kind, () -> call.answer(once));
        }
        List<Object> behind = Snapshot.of(keeper -> {
            run.on(keeper);
            for (int i = 0; i < 3; i++) {
                Checks.outcome(() -> call.answer(keeper));
            }
        });
        checks.equal(what + " changed nothing", true, () -> behind.equals(before));
    }
}
