import java.util.List;

/** Not promised: "Nothing ... beyond the answers and state changes described above": what only asks changes nothing. */
public final class QuestionTest {
    public static void main(String[] args) {
        Checks checks = new Checks();
        Checks.Run[] states = {keeper -> { }, keeper -> twoRounds(keeper), keeper -> gathering(keeper)};
        for (int i = 0; i < states.length; i++) {
            asksOnly(checks, "state " + i, states[i]);
        }
        checks.end();
    }

    private static void twoRounds(ReachKeeper keeper) {
        Checks.more(keeper, 0, 1, 1, 2, 1, 2, 2, 0, 31, 31);
        keeper.apply();
        Checks.less(keeper, 1, 2, 2, 0);
        Checks.more(keeper, 31, 0, 5, 4);
        keeper.apply();
    }

    private static void gathering(ReachKeeper keeper) {
        twoRounds(keeper);
        Checks.less(keeper, 31, 31, 0, 1);
        Checks.more(keeper, 4, 5, 2, 2);
    }

    private static void asksOnly(Checks checks, String state, Checks.Run run) {
        List<Object> before = Snapshot.of(run);
        changesNothing(checks, state + ": holds", run, before, keeper -> keeper.holds(31, 2));
        changesNothing(checks, state + ": came", run, before, keeper -> keeper.came(0));
        changesNothing(checks, state + ": went", run, before, keeper -> keeper.went(0));
        changesNothing(checks, state + ": distance", run, before, keeper -> keeper.distance(31, 2));
        changesNothing(checks, state + ": times", run, before, keeper -> keeper.times(1, 2));
        for (int what = -1; what <= 8; what++) {
            int number = what;
            changesNothing(checks, state + ": count(" + what + ")", run, before, keeper -> keeper.count(number));
        }
    }

    private static void changesNothing(Checks checks, String what, Checks.Run run, List<Object> before,
            Checks.Question question) {
        ReachKeeper asked = new ReachKeeper();
        run.on(asked);
        Object first = Checks.outcome(() -> question.answer(asked));
        for (int i = 0; i < 3; i++) {
            checks.equal(what + " asked again", first, () -> question.answer(asked));
        }
        List<Object> behind = Snapshot.of(keeper -> {
            run.on(keeper);
            Checks.outcome(() -> question.answer(keeper));
        });
        checks.equal(what + " changed nothing", true, () -> behind.equals(before));
    }
}
