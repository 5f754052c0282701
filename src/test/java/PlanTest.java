/** Promise 2, and the tariff at a time. */
public final class PlanTest {
    public static void main(String[] args) {
        answersTheEntries();
        refusesWrongNumbers();
        picksTheGreatestMinuteNotAbove();
        picksTheFirstOfTheSameMinute();
        goesByThePlanOfTheDay();
        worksWhileOff();
        Check.end();
    }

    private static void answersTheEntries() {
        MeterBox x = new MeterBox();
        Check.due("first", x.plan(0, 3, 1439, 2), 1);
        Check.due("second", x.plan(0, 0, 0, 0), 2);
        Check.due("the same again", x.plan(0, 0, 5, 1), 2);
        Check.due("the other plan", x.plan(1, 0, 0, 1), 1);
        Check.due("the other plan", x.plan(1, 3, 0, 1), 2);
        Check.due("third", x.plan(0, 1, 0, 1), 3);
        Check.due("fourth", x.plan(0, 2, 0, 1), 4);
        Check.due("taken away", x.plan(0, 3, 0, -1), 3);
        Check.due("taken away again", x.plan(0, 3, 1439, -1), 3);
    }

    private static void refusesWrongNumbers() {
        MeterBox x = new MeterBox();
        int[][] wrong = {
            {-1, 0, 0, 0}, {2, 0, 0, 0}, {0, -1, 0, 0}, {0, 4, 0, 0}, {0, 0, -1, 0}, {0, 0, 1440, 0},
            {0, 0, 0, -2}, {0, 0, 0, 3}, {0, 0, 1440, -1}, {0, 0, -1, -1},
            {Integer.MIN_VALUE, 0, 0, 0}, {0, Integer.MAX_VALUE, 0, 0},
        };
        for (int[] w : wrong) {
            Check.refused("plan", IllegalArgumentException.class, () -> x.plan(w[0], w[1], w[2], w[3]));
        }
        Check.due("nothing was changed", x.plan(0, 1, 0, 0), 1);
        Check.due("nothing was changed", x.plan(1, 1, 0, 0), 1);
    }

    private static void picksTheGreatestMinuteNotAbove() {
        MeterBox x = new MeterBox();
        x.plan(0, 0, 600, 2);
        x.plan(0, 1, 300, 1);
        x.plan(0, 2, 900, 1);
        x.plan(0, 3, 450, 0);
        int[][] due = {{299, 0}, {1, 1}, {149, 1}, {1, 0}, {149, 0}, {1, 2}, {299, 2}, {1, 1}, {539, 1}, {1, 0}};
        Check.due("TIME 0", x.count(10), 0);
        for (int[] step : due) {
            Bench.idle(x, step[0]);
            Check.due("tariff at " + x.count(6), x.count(10), step[1]);
        }
        MeterBox y = new MeterBox();
        y.plan(0, 2, 0, 2);
        Check.due("minute 0 at TIME 0", y.count(10), 2);
        y.plan(0, 2, 0, -1);
        Check.due("none again", y.count(10), 0);
    }

    private static void picksTheFirstOfTheSameMinute() {
        MeterBox x = new MeterBox();
        x.plan(0, 3, 0, 1);
        x.plan(0, 1, 0, 2);
        Check.due("entry 1 before entry 3", x.count(10), 2);
        x.plan(0, 0, 0, -1);
        Check.due("none is passed over", x.count(10), 2);
        x.plan(0, 1, 1, 2);
        Check.due("entry 3 alone", x.count(10), 1);
    }

    private static void goesByThePlanOfTheDay() {
        MeterBox x = new MeterBox();
        x.plan(0, 0, 0, 1);
        x.plan(1, 0, 0, 2);
        for (int day = 0; day < 15; day++) {
            int due = day % 7 == 5 || day % 7 == 6 ? 2 : 1;
            Check.due("first minute of day " + day, x.count(10), due);
            Bench.idle(x, 1439);
            Check.due("last minute of day " + day, x.count(10), due);
            Bench.idle(x, 1);
        }
    }

    private static void worksWhileOff() {
        MeterBox x = new MeterBox();
        x.plan(0, 0, 0, 1);
        x.power(false);
        Check.due("while OFF", x.plan(0, 1, 0, 2), 2);
        x.power(true);
        Check.due("plans stay", x.count(10), 1);
        Check.due("plans stay", x.plan(0, 0, 0, -1), 1);
        Check.due("plans stay", x.count(10), 2);
    }
}
