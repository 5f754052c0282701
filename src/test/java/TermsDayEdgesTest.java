/** The edges of Terms: days, and the TARIFF at a TIME. */
public final class TermsDayEdgesTest {
    private static final String TERMS = "Terms";

    public static void main(String[] args) {
        hasDaysOf1440Minutes();
        beginsWithDayNought();
        knowsTheDaysOfPlanOne();
        takesMinutesNotAbove();
        takesTheGreatestMinute();
        takesTheFirstOfTheSame();
        takesTariffNoughtWithoutAny();
        Check.end();
    }

    private static MeterBox at(int time) {
        MeterBox x = new MeterBox();
        Bench.idle(x, time);
        return x;
    }

    private static void hasDaysOf1440Minutes() {
        Check.sentence(TERMS, "A day has 1440 minutes");
        MeterBox x = at(1438);
        x.plan(0, 0, 1439, 2);
        x.plan(0, 1, 0, 1);
        Check.due("TIME 1438", x.count(10), 1);
        Bench.idle(x, 1);
        Check.due("TIME 1439, the last minute", x.count(10), 2);
        Check.due("not SAVED yet", x.flash(0, 0), -1);
        Bench.idle(x, 1);
        Check.due("TIME 1440, the first minute", x.count(10), 1);
        Check.due("SAVED", x.flash(0, 0), 1);
        Bench.idle(x, 1439);
        Check.due("TIME 2879, the last minute", x.count(10), 2);
        Check.due("not SAVED yet", x.flash(1, 0), -1);
        Bench.idle(x, 1);
        Check.due("TIME 2880, the first minute", x.count(10), 1);
        Check.due("SAVED", x.flash(1, 0), 2);
    }

    private static void beginsWithDayNought() {
        Check.sentence(TERMS, "TIME 0 is the beginning of day number 0");
        MeterBox x = new MeterBox();
        x.plan(0, 0, 0, 2);
        x.plan(1, 0, 0, 1);
        Check.due("minute 0 at TIME 0", x.count(10), 2);
        x.plan(0, 0, 1, 2);
        Check.due("minute 1 at TIME 0", x.count(10), 0);
        Bench.idle(x, 1);
        Check.due("minute 1 at TIME 1", x.count(10), 2);
    }

    private static void knowsTheDaysOfPlanOne() {
        Check.sentence(TERMS, "days of numbers 5 and 6, 12 and 13, .. (number % 7 is 5 or 6) go by PLAN 1, others by 0");
        MeterBox x = new MeterBox();
        x.plan(1, 0, 0, 2);
        x.plan(0, 0, 0, 1);
        boolean[] ofPlanOne = new boolean[28];
        for (int day : new int[] {5, 6, 12, 13, 19, 20, 26, 27}) {
            ofPlanOne[day] = true;
        }
        for (int day = 0; day < 28; day++) {
            int due = ofPlanOne[day] ? 2 : 1;
            Check.due("the first minute of day " + day, x.count(10), due);
            Bench.idle(x, 1439);
            Check.due("the last minute of day " + day, x.count(10), due);
            Bench.idle(x, 1);
        }
    }

    private static void takesMinutesNotAbove() {
        Check.sentence(TERMS, "of the ENTRIES of its PLAN whose minute is not above the minute of the day");
        for (int minute : new int[] {1, 2, 359, 720, 1438, 1439}) {
            MeterBox x = at(minute - 1);
            x.plan(0, 3, minute, 2);
            Check.due("one minute before " + minute, x.count(10), 0);
            Bench.idle(x, 1);
            Check.due("at " + minute, x.count(10), 2);
        }
        MeterBox y = at(7200 + 99);
        y.plan(1, 0, 100, 1);
        y.plan(0, 0, 0, 2);
        Check.due("one minute before, PLAN 1", y.count(10), 0);
        Bench.idle(y, 1);
        Check.due("at 100, PLAN 1", y.count(10), 1);
    }

    private static void takesTheGreatestMinute() {
        Check.sentence(TERMS, "that of the greatest minute");
        int[][] orders = {{0, 1, 2, 3}, {3, 2, 1, 0}, {1, 3, 0, 2}, {2, 0, 3, 1}};
        for (int[] order : orders) {
            MeterBox x = new MeterBox();
            for (int i = 0; i < 4; i++) {
                x.plan(0, order[i], 10 + i, new int[] {1, 2, 0, 1}[i]);
            }
            int[] due = {1, 2, 0, 1, 1};
            Bench.idle(x, 10);
            for (int i = 0; i < due.length; i++) {
                Check.due("TARIFF at " + (10 + i), x.count(10), due[i]);
                Bench.idle(x, 1);
            }
        }
    }

    private static void takesTheFirstOfTheSame() {
        Check.sentence(TERMS, "(of the same the first)");
        for (int first = 0; first < 4; first++) {
            for (int second = first + 1; second < 4; second++) {
                MeterBox x = at(50);
                x.plan(0, second, 50, 1);
                x.plan(0, first, 50, 2);
                Check.due("ENTRIES " + first + " and " + second, x.count(10), 2);
                x.plan(0, second, 49, 1);
                Check.due("the second one less", x.count(10), 2);
                x.plan(0, second, 50, 1);
                x.plan(0, first, 49, 2);
                Check.due("the first one less", x.count(10), 1);
            }
        }
    }

    private static void takesTariffNoughtWithoutAny() {
        Check.sentence(TERMS, "without any, TARIFF 0");
        Check.due("no ENTRY", new MeterBox().count(10), 0);
        MeterBox x = at(20);
        x.plan(0, 0, 21, 1);
        x.plan(0, 1, 1439, 2);
        x.plan(1, 0, 0, 2);
        Check.due("none is due yet", x.count(10), 0);
        x.plan(0, 1, 20, 2);
        Check.due("one is", x.count(10), 2);
        x.plan(0, 1, 20, -1);
        Check.due("it is none again", x.count(10), 0);
        x.plan(0, 1, 20, 0);
        Check.due("one of TARIFF 0", x.count(10), 0);
    }
}
