import java.util.ArrayList;
import java.util.List;
import java.util.NoSuchElementException;

/** Terms: CAME and WENT, of the latest ROUND that was APPLIED alone, in order of 32 a + b. */
public final class CameAndWentTest {
    public static void main(String[] args) {
        Checks checks = new Checks();
        beforeAnyRoundThereAreNone(checks);
        onlyTheLatestRoundCounts(checks);
        onlyAnAppliedRoundCounts(checks);
        whatHeldBeforeDidNotCome(checks);
        whatStillHoldsDidNotGo(checks);
        theOrderIsThatOfTheNumber(checks);
        noneOneAndAll(checks);
        checks.end();
    }

    private static void cameAndWent(Checks checks, String what, ReachKeeper keeper, List<Integer> came,
            List<Integer> went) {
        checks.equal(what + ": came", came, () -> Checks.allCame(keeper));
        checks.equal(what + ": went", went, () -> Checks.allWent(keeper));
        checks.refused(what + ": behind the last that came", NoSuchElementException.class,
                () -> keeper.came(came.size()));
        checks.refused(what + ": behind the last that went", NoSuchElementException.class,
                () -> keeper.went(went.size()));
        checks.refused(what + ": before the first that came", NoSuchElementException.class, () -> keeper.came(-1));
        checks.refused(what + ": before the first that went", NoSuchElementException.class, () -> keeper.went(-1));
    }

    private static void beforeAnyRoundThereAreNone(Checks checks) {
        ReachKeeper keeper = new ReachKeeper();
        cameAndWent(checks, "new", keeper, List.of(), List.of());
        Checks.more(keeper, 0, 0);
        cameAndWent(checks, "gathering", keeper, List.of(), List.of());
        keeper.forget();
        cameAndWent(checks, "forgotten", keeper, List.of(), List.of());
    }

    // "behind the latest ROUND that was APPLIED and didn't before it"
    private static void onlyTheLatestRoundCounts(Checks checks) {
        ReachKeeper keeper = Checks.with(0, 1, 31, 30);
        cameAndWent(checks, "first", keeper, List.of(1, 1022), List.of());
        Checks.more(keeper, 1, 2);
        keeper.apply();
        cameAndWent(checks, "second", keeper, List.of(2, 34), List.of());
        Checks.less(keeper, 0, 1, 31, 30);
        Checks.more(keeper, 2, 2);
        keeper.apply();
        cameAndWent(checks, "third", keeper, List.of(66), List.of(1, 2, 1022));
        Checks.more(keeper, 0, 1);
        keeper.apply();
        cameAndWent(checks, "what went comes again", keeper, List.of(1, 2), List.of());
        keeper.apply();
        cameAndWent(checks, "a round of none", keeper, List.of(), List.of());
    }

    private static void onlyAnAppliedRoundCounts(Checks checks) {
        ReachKeeper keeper = Checks.with(0, 1);
        Checks.less(keeper, 0, 1);
        Checks.more(keeper, 1, 0);
        keeper.apply();
        cameAndWent(checks, "applied", keeper, List.of(32), List.of(1));
        Checks.less(keeper, 1, 0);
        Checks.more(keeper, 5, 5);
        cameAndWent(checks, "while gathering", keeper, List.of(32), List.of(1));
        keeper.forget();
        cameAndWent(checks, "behind forget", keeper, List.of(32), List.of(1));
        Checks.more(keeper, 5, 5);
        Checks.less(keeper, 6, 6);
        checks.refused("conflict", IllegalStateException.class, () -> keeper.apply());
        cameAndWent(checks, "behind a conflict", keeper, List.of(32), List.of(1));
        Checks.more(keeper, 6, 6);
        keeper.apply();
        cameAndWent(checks, "mended", keeper, List.of(165), List.of());
    }

    private static void whatHeldBeforeDidNotCome(Checks checks) {
        ReachKeeper keeper = Checks.with(0, 1, 1, 2);
        Checks.more(keeper, 0, 1, 0, 2);
        checks.equal("the edge again, and one where a way led", 0, () -> keeper.apply());
        cameAndWent(checks, "again", keeper, List.of(), List.of());
        Checks.less(keeper, 3, 4);
        Checks.more(keeper, 3, 4);
        checks.equal("less and more of none", 0, () -> keeper.apply());
        cameAndWent(checks, "less and more", keeper, List.of(), List.of());
    }

    private static void whatStillHoldsDidNotGo(Checks checks) {
        ReachKeeper keeper = Checks.with(0, 1, 0, 1, 1, 2, 0, 2);
        Checks.less(keeper, 0, 1);
        checks.equal("the edge is still there once", 0, () -> keeper.apply());
        Checks.less(keeper, 0, 2);
        checks.equal("another way is there", 0, () -> keeper.apply());
        Checks.less(keeper, 1, 2);
        Checks.more(keeper, 1, 3, 3, 2);
        keeper.apply();
        cameAndWent(checks, "the way goes elsewhere", keeper, List.of(3, 35, 98), List.of());
    }

    // "in order of 32 a + b", whatever the order of the changes: loops at all 32, from the last to the first.
    private static void theOrderIsThatOfTheNumber(Checks checks) {
        ReachKeeper keeper = new ReachKeeper();
        List<Integer> loops = new ArrayList<>();
        for (int v = 0; v < 32; v++) {
            keeper.change(31 - v, 31 - v, true);
            loops.add(33 * v);
        }
        keeper.apply();
        cameAndWent(checks, "loops", keeper, loops, List.of());
        for (int v = 31; v >= 0; v--) {
            keeper.change(v, v, false);
        }
        keeper.apply();
        cameAndWent(checks, "loops gone", keeper, List.of(), loops);
        ReachKeeper row = new ReachKeeper();
        Checks.more(row, 5, 31, 5, 0, 5, 30, 5, 1, 0, 31, 31, 0, 4, 31, 6, 0);
        row.apply();
        cameAndWent(checks, "one row", row, List.of(0, 31, 128, 159, 160, 161, 190, 191, 192, 223, 992, 1023),
                List.of());
    }

    // Empty, one, and all 1024.
    private static void noneOneAndAll(Checks checks) {
        ReachKeeper one = Checks.with(31, 31);
        cameAndWent(checks, "one", one, List.of(1023), List.of());
        Checks.less(one, 31, 31);
        one.apply();
        cameAndWent(checks, "one gone", one, List.of(), List.of(1023));
        for (int from = 0; from < 1024; from += 256) {
            ReachKeeper all = Checks.greatCircle();
            everyPlace(checks, "all: came", from, i -> all.came(i));
            checks.refused("all: went(0)", NoSuchElementException.class, () -> all.went(0));
            ReachKeeper gone = Checks.greatCircle();
            Checks.gatherCircle(gone, false);
            gone.apply();
            everyPlace(checks, "all gone: went", from, i -> gone.went(i));
            checks.refused("all gone: came(0)", NoSuchElementException.class, () -> gone.came(0));
        }
    }

    private interface Place {
        int answer(int i);
    }

    // One object has calls enough for 256 places.
    private static void everyPlace(Checks checks, String what, int from, Place call) {
        for (int place = from; place < from + 256; place++) {
            int i = place;
            checks.equal(what + "(" + i + ")", i, () -> call.answer(i));
        }
        checks.refused(what + "(1024)", NoSuchElementException.class, () -> call.answer(1024));
        checks.refused(what + "(-1)", NoSuchElementException.class, () -> call.answer(-1));
    }
}
