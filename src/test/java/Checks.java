import java.util.ArrayList;
import java.util.List;

/** What the tests share: comparing answers, and ending with exit code 1 if one was wrong. */
final class Checks {
    /** A call of the face whose answer, or exception, is looked at. */
    interface Call {
        Object answer();
    }

    private int wrong = 0;

    void equal(String what, Object want, Call call) {
        Object got = outcome(call);
        if (!want.equals(got)) {
            wrong++;
            System.out.println(what + " answered " + got + ", due is " + want);
        }
    }

    /** The exception's very class is asked for: a subclass would have come by itself, not by a throw. */
    void refused(String what, Class<? extends RuntimeException> kind, Call call) {
        equal(what, kind, call);
    }

    static Object outcome(Call call) {
        try {
            return call.answer();
        } catch (RuntimeException e) {
            return e.getClass();
        }
    }

    void end() {
        if (wrong != 0) {
            System.out.println(wrong + " answers are not as due");
            System.exit(1);
        }
    }

    /** Gathers each edge once more, told as a, b, a, b, ... */
    static void more(ReachKeeper keeper, int... ends) {
        gather(keeper, true, ends);
    }

    /** Gathers each edge once less, told as a, b, a, b, ... */
    static void less(ReachKeeper keeper, int... ends) {
        gather(keeper, false, ends);
    }

    private static void gather(ReachKeeper keeper, boolean more, int... ends) {
        for (int i = 0; i + 1 < ends.length; i += 2) {
            keeper.change(ends[i], ends[i + 1], more);
        }
    }

    /** A keeper with these edges, applied in one round. */
    static ReachKeeper with(int... ends) {
        ReachKeeper keeper = new ReachKeeper();
        more(keeper, ends);
        keeper.apply();
        return keeper;
    }

    /** The circle 0 -> 1 -> ... -> 31 -> 0. */
    static ReachKeeper greatCircle() {
        ReachKeeper keeper = new ReachKeeper();
        for (int v = 0; v < 32; v++) {
            keeper.change(v, (v + 1) % 32, true);
        }
        keeper.apply();
        return keeper;
    }

    static List<Integer> allCame(ReachKeeper keeper) {
        List<Integer> pairs = new ArrayList<>();
        for (int i = 0; i < keeper.count(4); i++) {
            pairs.add(keeper.came(i));
        }
        return pairs;
    }

    static List<Integer> allWent(ReachKeeper keeper) {
        List<Integer> pairs = new ArrayList<>();
        for (int i = 0; i < keeper.count(5); i++) {
            pairs.add(keeper.went(i));
        }
        return pairs;
    }

    /** All eight counts, in order. */
    static List<Integer> counts(ReachKeeper keeper) {
        List<Integer> all = new ArrayList<>();
        for (int what = 0; what < 8; what++) {
            all.add(keeper.count(what));
        }
        return all;
    }
}
