import java.util.List;
import java.util.NoSuchElementException;

/** Promise 7: went tells the pairs that held before the latest round and don't behind it. */
public final class WentTest {
    public static void main(String[] args) {
        Checks checks = new Checks();
        standsInOrder(checks);
        tellsTheLatestRoundAlone(checks);
        wholeCircle(checks);
        checks.end();
    }

    private static void standsInOrder(Checks checks) {
        ReachKeeper keeper = Checks.with(31, 31, 31, 0, 0, 31, 7, 9);
        checks.refused("nothing went", NoSuchElementException.class, () -> keeper.went(0));
        Checks.less(keeper, 7, 9, 0, 31);
        keeper.apply();
        checks.equal("went", List.of(0, 31, 233), () -> Checks.allWent(keeper));
        for (int i : new int[] {-1, 3, 4, 31, 32, 255, 256, 1023, 1024, 65536, -65536, Integer.MIN_VALUE,
            Integer.MIN_VALUE + 1, Integer.MAX_VALUE}) {
            checks.refused("went(" + i + ")", NoSuchElementException.class, () -> keeper.went(i));
        }
    }

    private static void tellsTheLatestRoundAlone(Checks checks) {
        ReachKeeper keeper = Checks.with(0, 1, 1, 2, 0, 2);
        Checks.less(keeper, 1, 2);
        keeper.apply();
        checks.equal("a way stays by another edge", List.of(34), () -> Checks.allWent(keeper));
        Checks.less(keeper, 0, 1, 8, 8);
        checks.refused("conflict", IllegalStateException.class, () -> keeper.apply());
        checks.equal("went behind a conflict", List.of(34), () -> Checks.allWent(keeper));
        keeper.forget();
        checks.equal("went behind forget", 34, () -> keeper.went(0));
        Checks.more(keeper, 1, 2);
        keeper.apply();
        checks.refused("what went before didn't go now", NoSuchElementException.class, () -> keeper.went(0));
    }

    private static void wholeCircle(Checks checks) {
        ReachKeeper keeper = Checks.greatCircle();
        for (int v = 0; v < 32; v++) {
            keeper.change(v, (v + 1) % 32, false);
        }
        checks.equal("all goes", 1024, () -> keeper.apply());
        for (int place = 0; place < 1024; place += 11) {
            int i = place;
            checks.equal("circle: went(" + i + ")", i, () -> keeper.went(i));
        }
        checks.equal("circle: went(1023)", 1023, () -> keeper.went(1023));
        for (int i : new int[] {-1, 1024, 1025, Integer.MIN_VALUE, Integer.MAX_VALUE}) {
            checks.refused("circle: went(" + i + ")", NoSuchElementException.class, () -> keeper.went(i));
        }
    }
}
