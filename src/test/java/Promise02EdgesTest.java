/** The edges of promise 2: plan. */
public final class Promise02EdgesTest {
    private static final String PROMISE = "Promise 2";

    public static void main(String[] args) {
        takesDays();
        takesEntries();
        takesMinutes();
        takesTariffs();
        takesNone();
        goesOnOrOff();
        isTheEntry();
        answersHowMany();
        Check.end();
    }

    private static void takesDays() {
        Check.sentence(PROMISE, "day 0, 1");
        Look.outOfRange("day, ENTRY 1", 0, 1, (x, n) -> x.plan(n, 1, 180, 0));
        Look.outOfRange("day, ENTRY 2", 0, 1, (x, n) -> x.plan(n, 2, 180, 0));
        Look.withinRange("day", 0, 1, n -> new MeterBox().plan(n, 1, 60, 2));
    }

    private static void takesEntries() {
        Check.sentence(PROMISE, "entry 0 .. 3");
        Look.outOfRange("entry of day 0", 0, 3, (x, n) -> x.plan(0, n, 180, 0));
        Look.withinRange("entry", 0, 3, n -> new MeterBox().plan(0, n, 60, 2));
        Look.outOfRange("entry of day 1", 0, 3, (x, n) -> x.plan(1, n, 180, 0));
    }

    private static void takesMinutes() {
        Check.sentence(PROMISE, "minute 0 .. 1439");
        Look.outOfRange("minute, for none", 0, 1439, (x, n) -> x.plan(0, 1, n, 0));
        Look.outOfRange("minute, for an ENTRY", 0, 1439, (x, n) -> x.plan(0, 2, n, 0));
        Look.withinRange("minute", 0, 1439, n -> new MeterBox().plan(0, 1, n, 2));
    }

    private static void takesTariffs() {
        Check.sentence(PROMISE, "tariff 0 .. 2, or -1: none");
        Look.outOfRange("tariff, for none", -1, 2, (x, n) -> x.plan(1, 0, 180, n));
        Look.outOfRange("tariff, for an ENTRY", -1, 2, (x, n) -> x.plan(1, 1, 180, n));
        Look.withinRange("tariff", -1, 2, n -> new MeterBox().plan(0, 1, 60, n));
        for (int tariff = 0; tariff <= 2; tariff++) {
            MeterBox x = new MeterBox();
            x.plan(0, 1, 0, tariff);
            Check.due("TARIFF now", x.count(10), tariff);
        }
    }

    private static void takesNone() {
        Check.sentence(PROMISE, "tariff 0 .. 2, or -1: none");
        Look.outOfRange("minute of none", 0, 1439, (x, n) -> x.plan(0, 0, n, -1));
        MeterBox x = new MeterBox();
        Check.due("one", x.plan(0, 1, 0, 2), 1);
        Check.due("TARIFF now", x.count(10), 2);
        Check.due("none, whatever its minute", x.plan(0, 1, 1439, -1), 0);
        Check.due("TARIFF now", x.count(10), 0);
        Check.due("none for none", x.plan(0, 1, 0, -1), 0);
    }

    private static void goesOnOrOff() {
        Check.sentence(PROMISE, "(ON or OFF.)");
        MeterBox x = Rich.off();
        Check.due("OFF by power", x.plan(0, 3, 0, 2), 3);
        Check.due("still OFF", x.count(0), 0);
        x.power(true);
        Check.due("it holds", x.count(10), 2);
        MeterBox y = Rich.torn();
        Check.due("OFF by a CUT", y.plan(1, 0, 0, 2), 3);
        Check.due("ON", Rich.closed().plan(1, 0, 0, 2), 3);
        Look.changes("OFF: nothing else is seen", Rich::off, z -> z.plan(0, 3, 0, 2));
    }

    private static void isTheEntry() {
        Check.sentence(PROMISE, "That is the ENTRY.");
        MeterBox x = new MeterBox();
        Bench.idle(x, 100);
        x.plan(0, 2, 100, 1);
        Check.due("set", x.count(10), 1);
        x.plan(0, 2, 100, 2);
        Check.due("another TARIFF", x.count(10), 2);
        x.plan(0, 2, 101, 2);
        Check.due("another minute", x.count(10), 0);
        x.plan(1, 2, 100, 2);
        Check.due("the other PLAN", x.count(10), 0);
        Bench.idle(x, 1);
        Check.due("at that minute", x.count(10), 2);
        Look.changes("nothing but the TARIFF now", Rich::closed, y -> y.plan(0, 1, 121, 0), "count(10) = 0");
    }

    private static void answersHowMany() {
        Check.sentence(PROMISE, "Answers how many ENTRIES the PLAN has that are not none.");
        for (int day = 0; day < 2; day++) {
            MeterBox x = new MeterBox();
            Check.due("none", x.plan(day, 0, 0, -1), 0);
            for (int entry = 0; entry < 4; entry++) {
                Check.due("ENTRY " + entry, x.plan(day, entry, 0, 0), entry + 1);
            }
            Check.due("all four, one anew", x.plan(day, 3, 9, 2), 4);
            Check.due("the other PLAN has its own", x.plan(1 - day, 3, 9, 2), 1);
            for (int entry = 0; entry < 4; entry++) {
                Check.due("without " + entry, x.plan(day, entry, 0, -1), 3 - entry);
            }
        }
    }
}
