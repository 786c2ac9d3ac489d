import java.util.Random;

/** All promises: long runs of mixed calls, right and wrong ones, against the model; the seeds are fixed. */
public final class ModelTest {
    private static final int RUNS = 1500;
    private static final int CALLS = 512;
    private static final int[] WRONG = {-1, 32, -32, 1024, Integer.MIN_VALUE, Integer.MAX_VALUE};

    private final Checks checks;
    private final Random random;
    private final ReachKeeper keeper = new ReachKeeper();
    private final Model model = new Model();
    private final String name;
    // A few vertices give dense graphs and many conflicts, many give long ways.
    private final int lowest;
    private final int vertices;
    private final int lessOfTen;
    private final int applyOfHundred;

    private ModelTest(Checks checks, int seed) {
        this.checks = checks;
        random = new Random(seed);
        name = "run " + seed;
        vertices = 1 + random.nextInt(32);
        lowest = random.nextInt(33 - vertices);
        lessOfTen = random.nextInt(6);
        applyOfHundred = 1 + random.nextInt(20);
    }

    public static void main(String[] args) {
        Checks checks = new Checks();
        for (int seed = 0; seed < RUNS; seed++) {
            ModelTest test = new ModelTest(checks, seed);
            for (int call = 0; call < CALLS; call++) {
                test.callOne(call);
            }
        }
        checks.end();
    }

    private void callOne(int call) {
        int kind = random.nextInt(100);
        if (kind < applyOfHundred) {
            same(call, "apply()", () -> model.apply(), () -> keeper.apply());
        } else if (kind == 20) {
            same(call, "forget()", () -> model.forget(), () -> keeper.forget());
        } else if (kind < 65) {
            changeOne(call);
        } else if (kind < 82) {
            askAboutPair(call, kind);
        } else {
            askAboutRound(call, kind);
        }
    }

    private void changeOne(int call) {
        int a = vertex();
        int b = vertex();
        boolean asked = random.nextInt(10) >= lessOfTen;
        // An edge that is not there is rarely taken away, else most rounds would be conflicts.
        boolean there = a >= 0 && a < 32 && b >= 0 && b < 32 && model.times(a, b) > 0;
        boolean more = asked || !there && random.nextInt(20) != 0;
        String text = "change(" + a + ", " + b + ", " + more + ")";
        same(call, text, () -> model.change(a, b, more), () -> keeper.change(a, b, more));
    }

    private void askAboutPair(int call, int kind) {
        int a = vertex();
        int b = vertex();
        String ends = "(" + a + ", " + b + ")";
        if (kind < 70) {
            same(call, "holds" + ends, () -> model.holds(a, b), () -> keeper.holds(a, b));
        } else if (kind < 77) {
            same(call, "distance" + ends, () -> model.distance(a, b), () -> keeper.distance(a, b));
        } else {
            same(call, "times" + ends, () -> model.times(a, b), () -> keeper.times(a, b));
        }
    }

    private void askAboutRound(int call, int kind) {
        int what = random.nextInt(10) - 1;
        int i = random.nextInt(3 + model.count(kind < 92 ? 4 : 5)) - 1;
        if (kind < 88) {
            same(call, "count(" + what + ")", () -> model.count(what), () -> keeper.count(what));
        } else if (kind < 92) {
            same(call, "came(" + i + ")", () -> model.came(i), () -> keeper.came(i));
        } else {
            same(call, "went(" + i + ")", () -> model.went(i), () -> keeper.went(i));
        }
    }

    private int vertex() {
        return random.nextInt(60) == 0 ? WRONG[random.nextInt(WRONG.length)] : lowest + random.nextInt(vertices);
    }

    private void same(int call, String text, Checks.Call due, Checks.Call asked) {
        checks.equal(name + ", call " + call + ": " + text, Checks.outcome(due), asked);
    }
}
