import java.util.List;
import java.util.NoSuchElementException;

/** Promise 6: came tells the pairs that hold behind the latest round and didn't before it. */
public final class CameTest {
    public static void main(String[] args) {
        Checks checks = new Checks();
        standsInOrder(checks);
        tellsTheLatestRoundAlone(checks);
        wholeCircle(checks);
        checks.end();
    }

    private static void standsInOrder(Checks checks) {
        ReachKeeper keeper = new ReachKeeper();
        Checks.more(keeper, 31, 31, 31, 0, 0, 31, 7, 9);
        checks.refused("came(0) before apply", NoSuchElementException.class, () -> keeper.came(0));
        keeper.apply();
        checks.equal("came", List.of(0, 31, 233, 992, 1023), () -> Checks.allCame(keeper));
        for (int i : new int[] {-1, 5, 6, 31, 32, 255, 256, 1023, 1024, 65536, -65536, Integer.MIN_VALUE,
            Integer.MIN_VALUE + 1, Integer.MAX_VALUE}) {
            checks.refused("came(" + i + ")", NoSuchElementException.class, () -> keeper.came(i));
        }
    }

    private static void tellsTheLatestRoundAlone(Checks checks) {
        ReachKeeper keeper = Checks.with(0, 1, 2, 3);
        Checks.more(keeper, 1, 2, 0, 1);
        keeper.apply();
        checks.equal("came by joining", List.of(2, 3, 34, 35), () -> Checks.allCame(keeper));
        Checks.more(keeper, 0, 3);
        checks.equal("came while gathering", 2, () -> keeper.came(0));
        keeper.forget();
        checks.equal("came behind forget", 35, () -> keeper.came(3));
        Checks.less(keeper, 9, 9);
        checks.refused("conflict", IllegalStateException.class, () -> keeper.apply());
        checks.equal("came behind a conflict", List.of(2, 3, 34, 35), () -> Checks.allCame(keeper));
        keeper.forget();
        Checks.more(keeper, 0, 3);
        keeper.apply();
        checks.refused("what held before didn't come", NoSuchElementException.class, () -> keeper.came(0));
    }

    private static void wholeCircle(Checks checks) {
        ReachKeeper keeper = Checks.greatCircle();
        for (int place = 0; place < 1024; place += 11) {
            int i = place;
            checks.equal("circle: came(" + i + ")", i, () -> keeper.came(i));
        }
        checks.equal("circle: came(1023)", 1023, () -> keeper.came(1023));
        for (int i : new int[] {-1, 1024, 1025, Integer.MIN_VALUE, Integer.MAX_VALUE}) {
            checks.refused("circle: came(" + i + ")", NoSuchElementException.class, () -> keeper.came(i));
        }
    }
}
