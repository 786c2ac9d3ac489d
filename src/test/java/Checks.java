import java.util.ArrayList;
import java.util.List;

/** What the tests share: comparing answers, and ending with exit code 1 if one was wrong. */
final class Checks {
    /** A call of the face whose answer, or exception, is looked at. */
    interface Call {
        Object answer();
    }

    /** A call on an object that is given later. */
    interface Question {
        Object answer(ReachKeeper keeper);
    }

    /** A call of the face that is given two vertices. */
    interface PairCall {
        Object answer(ReachKeeper keeper, int a, int b);
    }

    /** A run of calls on one object. */
    interface Run {
        void on(ReachKeeper keeper);
    }

    /**
     * No vertices: the first beyond each end, the ends of int, and some that would be vertices
     * if a byte, a char, a shift or 32 a + b wrapped around.
     */
    static final int[] NO_VERTICES = {-1, 32, -32, -31, 33, 63, 64, 255, 256, 1023, 1024, 65535, 65536,
        1 << 27, (1 << 27) + 1, -(1 << 27), Integer.MIN_VALUE, Integer.MIN_VALUE + 31, Integer.MAX_VALUE};

    /** No pairs, though 32 a + b is the number of one, with or without a wrap-around. */
    static final int[][] NO_PAIRS = {{-1, 32}, {-1, 63}, {0, 32}, {0, 1023}, {1, -1}, {1, -32}, {31, -1}, {31, -992},
        {32, -1}, {32, -1024}, {1 << 27, 0}, {-(1 << 27), 31}, {(1 << 27) + 31, 31}, {Integer.MIN_VALUE, 0},
        {Integer.MIN_VALUE, 31}};

    private int wrong = 0;

    void equal(String what, Object want, Call call) {
        Object got = outcome(call);
        if (!want.equals(got)) {
            wrong++;
            System.out.println(what + " answered " + got + ", due is " + want);
        }
    }

    /** The exception's very class is asked for: a subclass would have come by itself, not by a throw. */
    void refused(String what, Class<? extends RuntimeException> kind, Call call) {
        equal(what, kind, call);
    }

    static Object outcome(Call call) {
        try {
            return call.answer();
        } catch (RuntimeException e) {
            return e.getClass();
        }
    }

    void end() {
        if (wrong != 0) {
            System.out.println(wrong + " answers are not as due");
            System.exit(1);
        }
    }

    /** Gathers each edge once more, told as a, b, a, b, ... */
    static void more(ReachKeeper keeper, int... ends) {
        gatherAll(keeper, true, ends);
    }

    /** Gathers each edge once less, told as a, b, a, b, ... */
    static void less(ReachKeeper keeper, int... ends) {
        gatherAll(keeper, false, ends);
    }

    private static void gatherAll(ReachKeeper keeper, boolean more, int... ends) {
        for (int i = 0; i + 1 < ends.length; i += 2) {
            keeper.change(ends[i], ends[i + 1], more);
        }
    }

    /** Gathers the same edge several times. */
    static void gather(ReachKeeper keeper, int a, int b, boolean more, int times) {
        for (int i = 0; i < times; i++) {
            keeper.change(a, b, more);
        }
    }

    /** A keeper with these edges, applied in one round. */
    static ReachKeeper with(int... ends) {
        ReachKeeper keeper = new ReachKeeper();
        more(keeper, ends);
        keeper.apply();
        return keeper;
    }

    /** The circle 0 -> 1 -> ... -> 31 -> 0. */
    static ReachKeeper greatCircle() {
        ReachKeeper keeper = new ReachKeeper();
        gatherCircle(keeper, true);
        keeper.apply();
        return keeper;
    }

    /** Gathers the great circle's 32 edges. */
    static void gatherCircle(ReachKeeper keeper, boolean more) {
        for (int v = 0; v < 32; v++) {
            keeper.change(v, (v + 1) % 32, more);
        }
    }

    static List<Integer> allCame(ReachKeeper keeper) {
        List<Integer> pairs = new ArrayList<>();
        for (int i = 0; i < keeper.count(4); i++) {
            pairs.add(keeper.came(i));
        }
        return pairs;
    }

    static List<Integer> allWent(ReachKeeper keeper) {
        List<Integer> pairs = new ArrayList<>();
        for (int i = 0; i < keeper.count(5); i++) {
            pairs.add(keeper.went(i));
        }
        return pairs;
    }

    /** All eight counts, in order. */
    static List<Integer> counts(ReachKeeper keeper) {
        List<Integer> all = new ArrayList<>();
        for (int what = 0; what < 8; what++) {
            all.add(keeper.count(what));
        }
        return all;
    }
}
