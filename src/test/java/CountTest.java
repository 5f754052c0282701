/** Promise 14. */
public final class CountTest {
    public static void main(String[] args) {
        MeterBox x = Bench.opened();
        x.plan(0, 0, 380, 2);
        for (int i = 0; i < 13; i++) {
            x.save();
        }
        x.token(Bench.tokenOf(Bench.PRICES, 77, 0));
        check(x, 1, 1, 2, 1, 1, 1, 381, 0, 0, 77, 2);
        x.emergency();
        check(x, 1, 2, 2, 1, 1, 1, 381, 1, 1, 77, 2);
        refusesWrongNumbers(x);
        x.power(false);
        refusesWrongNumbers(x);
        check(x, 0, 0, 2, 1, 1, 1);
        for (int what = 6; what <= 10; what++) {
            int w = what;
            Check.refused("OFF, count(" + w + ")", IllegalStateException.class, () -> x.count(w));
        }
        x.power(true);
        check(x, 1, 0, 2, 1, 1, 1, 381, 0, 0, 77, 2);
        Check.end();
    }

    private static void check(MeterBox x, int... due) {
        for (int i = 0; i < due.length; i++) {
            Check.due("count(" + i + ")", x.count(i), due[i]);
        }
    }

    private static void refusesWrongNumbers(MeterBox x) {
        for (int what : new int[] {-1, 11, Integer.MIN_VALUE, Integer.MAX_VALUE}) {
            Check.refused("count " + what, IllegalArgumentException.class, () -> x.count(what));
        }
    }
}
