import java.util.ArrayList;
import java.util.List;

/**
 * All that can be seen of an object behind a run of calls, at once and behind what may come next.
 * There are more questions than one object has calls, so the run is done anew on as many objects
 * as are needed; it may have up to 250 calls.
 */
final class Snapshot {
    private static final int QUESTIONS_AN_OBJECT = 250;

    private final Checks.Run run;
    private final List<Object> answers = new ArrayList<>();
    private ReachKeeper keeper;
    private int questionsLeft = 0;

    private Snapshot(Checks.Run run) {
        this.run = run;
    }

    /** Equal lists for two runs mean that no call can tell one run's object from the other's. */
    static List<Object> of(Checks.Run run) {
        List<Object> seen = new ArrayList<>(answersBehind(run));
        seen.addAll(behind(run, keeper -> keeper.apply()));
        seen.addAll(behind(run, keeper -> keeper.forget()));
        seen.addAll(behind(run, keeper -> mendAndApply(keeper)));
        seen.add(roomLeft(run));
        return seen;
    }

    private static List<Object> behind(Checks.Run run, Checks.Question next) {
        List<Object> seen = new ArrayList<>();
        ReachKeeper first = new ReachKeeper();
        run.on(first);
        seen.add(Checks.outcome(() -> next.answer(first)));
        seen.addAll(answersBehind(keeper -> {
            run.on(keeper);
            Checks.outcome(() -> next.answer(keeper));
        }));
        return seen;
    }

    // A conflict at (9, 9) hides what else is gathered; these changes end it.
    private static Object mendAndApply(ReachKeeper keeper) {
        Checks.more(keeper, 9, 9, 9, 9);
        return keeper.apply();
    }

    private static Object roomLeft(Checks.Run run) {
        ReachKeeper keeper = new ReachKeeper();
        run.on(keeper);
        List<Object> seen = new ArrayList<>();
        for (int i = 0; i < 62; i++) {
            seen.add(Checks.outcome(() -> keeper.change(0, 0, true)));
        }
        return seen;
    }

    private static List<Object> answersBehind(Checks.Run run) {
        Snapshot snapshot = new Snapshot(run);
        for (int what = -1; what <= 8; what++) {
            int number = what;
            snapshot.ask(keeper -> keeper.count(number));
        }
        for (int pair = 0; pair < 1024; pair++) {
            int a = pair / 32;
            int b = pair % 32;
            snapshot.ask(keeper -> keeper.times(a, b));
            snapshot.ask(keeper -> keeper.holds(a, b));
            snapshot.ask(keeper -> keeper.distance(a, b));
        }
        snapshot.askRow(4, (keeper, i) -> keeper.came(i));
        snapshot.askRow(5, (keeper, i) -> keeper.went(i));
        return snapshot.answers;
    }

    private interface Place {
        int answer(ReachKeeper keeper, int i);
    }

    private void askRow(int what, Place place) {
        int size = keeper.count(what);
        for (int i = -1; i <= size + 1; i++) {
            int number = i;
            ask(keeper -> place.answer(keeper, number));
        }
    }

    private void ask(Checks.Question question) {
        if (questionsLeft == 0) {
            keeper = new ReachKeeper();
            run.on(keeper);
            questionsLeft = QUESTIONS_AN_OBJECT;
        }
        questionsLeft--;
        answers.add(Checks.outcome(() -> question.answer(keeper)));
    }
}
