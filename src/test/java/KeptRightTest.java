import java.util.ArrayList;
import java.util.List;
import java.util.Random;

/**
 * What it is: "Edges between vertices come and go, many at a time; which vertex leads to which is kept right all the
 * time, and each round tells what came and what went." Behind every single call of some runs, all pairs are looked at.
 */
public final class KeptRightTest {
    private static final int RUNS = 30;
    private static final int CALLS = 120;

    private record Step(boolean isApply, Checks.Question call) { }

    /** All pairs at one moment: how often each edge is there, what holds, and what came and went. */
    private record View(List<Object> times, List<Object> holds, List<Object> came, List<Object> went) { }

    private interface Numbered {
        Object answer(ReachKeeper keeper, int number);
    }

    private final Checks checks;
    private final String name;
    private final List<Step> steps;

    private KeptRightTest(Checks checks, int seed) {
        this.checks = checks;
        name = "run " + seed;
        steps = mixedSteps(new Random(seed));
    }

    public static void main(String[] args) {
        Checks checks = new Checks();
        for (int seed = 0; seed < RUNS; seed++) {
            new KeptRightTest(checks, seed).lookBehindEveryCall();
        }
        checks.end();
    }

    private static List<Step> mixedSteps(Random random) {
        int vertices = 3 + random.nextInt(30);
        int[] applied = new int[1024];
        int[] sums = new int[1024];
        List<Step> steps = new ArrayList<>();
        while (steps.size() < CALLS) {
            int any = 32 * random.nextInt(vertices) + random.nextInt(vertices);
            int kind = random.nextInt(40);
            if (kind < 2) {
                steps.add(new Step(false, keeper -> keeper.forget()));
                sums = applied.clone();
            } else if (kind == 2) {
                steps.add(new Step(false, keeper -> keeper.change(any % 32, 32, true)));
            } else if (kind < 8) {
                steps.add(new Step(true, keeper -> keeper.apply()));
                applied = isConflict(sums) ? applied : sums.clone();
            } else {
                // What is taken away is there, but for one in eighty: some rounds are to be conflicts.
                int edge = kind < 22 ? nextThere(sums, any) : any;
                boolean less = kind < 22 && sums[edge] > 0 || kind == 39 && random.nextInt(2) == 0;
                steps.add(new Step(false, keeper -> keeper.change(edge / 32, edge % 32, !less)));
                sums[edge] += less ? -1 : 1;
            }
        }
        return steps;
    }

    private static boolean isConflict(int[] counts) {
        for (int count : counts) {
            if (count < 0) {
                return true;
            }
        }
        return false;
    }

    /** The first edge from this one on that is there, or this one if there is none. */
    private static int nextThere(int[] counts, int edge) {
        for (int i = 0; i < 1024; i++) {
            if (counts[(edge + i) % 1024] > 0) {
                return (edge + i) % 1024;
            }
        }
        return edge;
    }

    private void lookBehindEveryCall() {
        View before = viewBehind(0);
        for (int done = 1; done <= CALLS; done++) {
            View behind = viewBehind(done);
            ReachKeeper keeper = behindSteps(done - 1);
            Step step = steps.get(done - 1);
            Object answer = Checks.outcome(() -> step.call().answer(keeper));
            String place = name + ", behind call " + done + ": ";
            checks.equal(place + "what holds", waysOf(behind.times()), () -> behind.holds());
            if (step.isApply() && answer instanceof Integer) {
                tellsWhatCameAndWent(place, before, behind, answer);
            } else {
                View same = before;
                checks.equal(place + "nothing moved", true, () -> behind.equals(same));
            }
            before = behind;
        }
    }

    private void tellsWhatCameAndWent(String place, View before, View behind, Object answer) {
        List<Object> came = onlyInFirst(behind.holds(), before.holds());
        List<Object> went = onlyInFirst(before.holds(), behind.holds());
        checks.equal(place + "came", came, () -> behind.came());
        checks.equal(place + "went", went, () -> behind.went());
        checks.equal(place + "apply()", came.size() + went.size(), () -> answer);
    }

    private ReachKeeper behindSteps(int done) {
        ReachKeeper keeper = new ReachKeeper();
        for (Step step : steps.subList(0, done)) {
            Checks.outcome(() -> step.call().answer(keeper));
        }
        return keeper;
    }

    private View viewBehind(int done) {
        ReachKeeper keeper = behindSteps(done);
        return new View(
                askAll(done, 1024, (asked, pair) -> asked.times(pair / 32, pair % 32)),
                askAll(done, 1024, (asked, pair) -> asked.holds(pair / 32, pair % 32)),
                askAll(done, keeper.count(4), (asked, i) -> asked.came(i)),
                askAll(done, keeper.count(5), (asked, i) -> asked.went(i)));
    }

    // One object has no more than 512 calls, so the steps are done anew for every 256 questions.
    private List<Object> askAll(int done, int size, Numbered question) {
        List<Object> answers = new ArrayList<>();
        ReachKeeper keeper = null;
        for (int i = 0; i < size; i++) {
            if (i % 256 == 0) {
                keeper = behindSteps(done);
            }
            answers.add(question.answer(keeper, i));
        }
        return answers;
    }

    /** A way of one edge, and then each way with another behind it, until no more are found. */
    private static List<Object> waysOf(List<Object> times) {
        boolean[] leads = new boolean[1024];
        for (int pair = 0; pair < 1024; pair++) {
            leads[pair] = !times.get(pair).equals(0);
        }
        while (joinTwo(leads)) {
            continue;
        }
        List<Object> all = new ArrayList<>();
        for (boolean one : leads) {
            all.add(one);
        }
        return all;
    }

    private static boolean joinTwo(boolean[] leads) {
        boolean found = false;
        for (int first = 0; first < 1024; first++) {
            int a = first / 32;
            int v = first % 32;
            for (int b = 0; b < 32; b++) {
                if (leads[first] && leads[32 * v + b] && !leads[32 * a + b]) {
                    leads[32 * a + b] = true;
                    found = true;
                }
            }
        }
        return found;
    }

    private static List<Object> onlyInFirst(List<Object> first, List<Object> second) {
        List<Object> pairs = new ArrayList<>();
        for (int pair = 0; pair < 1024; pair++) {
            if (first.get(pair).equals(true) && second.get(pair).equals(false)) {
                pairs.add(pair);
            }
        }
        return pairs;
    }
}
