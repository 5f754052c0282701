/** The edges of promise 14: count. */
public final class Promise14EdgesTest {
    private static final String PROMISE = "Promise 14";

    public static void main(String[] args) {
        takesWhat();
        countsOn();
        countsEvents();
        countsWear();
        mustBeOnFromSix();
        countsTime();
        countsTheRelay();
        countsTheEmergency();
        countsLast();
        countsTheTariff();
        changesNothing();
        Check.end();
    }

    private static void takesWhat() {
        Check.sentence(PROMISE, "what 0 .. 10.");
        Look.outOfRange("what", 0, 10, MeterBox::count);
        Look.withinRange("what", 0, 10, n -> new MeterBox().count(n));
    }

    private static void countsOn() {
        Check.sentence(PROMISE, "0: 1 if it is ON, else 0");
        Check.due("at first", new MeterBox().count(0), 1);
        Check.due("OFF by power", Rich.off().count(0), 0);
        MeterBox x = Rich.torn();
        Check.due("OFF by a CUT", x.count(0), 0);
        x.power(true);
        Check.due("ON again", x.count(0), 1);
    }

    private static void countsEvents() {
        Check.sentence(PROMISE, "1 EVENTS kept");
        MeterBox x = new MeterBox();
        for (int i = 0; i <= 14; i++) {
            Check.due("after " + i, x.count(1), Math.min(i, 12));
            x.use(300.0, 0.0, 1);
        }
        Check.due("OFF by power", Rich.off().count(1), 0);
        Check.due("OFF by a CUT", Rich.torn().count(1), 2);
    }

    private static void countsWear() {
        Check.sentence(PROMISE, "2 + s: WEAR of SECTOR s 0 .. 3");
        MeterBox x = new MeterBox();
        for (int saved = 0; saved <= 48; saved++) {
            for (int s = 0; s < 4; s++) {
                Check.due("SECTOR " + s + " after " + saved, x.count(2 + s), (saved + 11 - 3 * s) / 12);
            }
            if (saved < 48) {
                x.save();
            }
        }
        x.power(false);
        for (int s = 0; s < 4; s++) {
            Check.due("OFF by power", x.count(2 + s), 4);
            Check.due("OFF by a CUT", Rich.torn().count(2 + s), s < 2 ? 1 : 0);
        }
    }

    private static void mustBeOnFromSix() {
        Check.sentence(PROMISE, "and if it is ON, else IllegalStateException");
        for (var made : Rich.allOff()) {
            for (int what = 0; what <= 5; what++) {
                int w = what;
                Check.refused("count(" + w + ")", null, () -> made.get().count(w));
            }
            for (int what = 6; what <= 10; what++) {
                int w = what;
                Look.refused("count(" + w + ")", IllegalStateException.class, made, x -> x.count(w));
            }
            Look.refused("count(11)", IllegalArgumentException.class, made, x -> x.count(11));
        }
    }

    private static void countsTime() {
        Check.sentence(PROMISE, "6 TIME");
        MeterBox x = new MeterBox();
        Check.due("at first", x.count(6), 0);
        x.use(0.0, 0.0, 1);
        Check.due("after one", x.count(6), 1);
        Bench.idle(x, 1439);
        Check.due("it goes on over a day", x.count(6), 1440);
        Bench.idle(x, 10000);
        Check.due("and over 10000", x.count(6), 11440);
    }

    private static void countsTheRelay() {
        Check.sentence(PROMISE, "7: 1 if the RELAY is closed, else 0");
        Check.due("closed", Rich.closed().count(7), 1);
        Check.due("open", Rich.open().count(7), 0);
        Check.due("closed again", Rich.helped().count(7), 1);
    }

    private static void countsTheEmergency() {
        Check.sentence(PROMISE, "8: 1 if EMERGENCY is used, else 0");
        Check.due("not", Rich.closed().count(8), 0);
        Check.due("not", Rich.open().count(8), 0);
        Check.due("used", Rich.helped().count(8), 1);
    }

    private static void countsLast() {
        Check.sentence(PROMISE, "9 LAST");
        Check.due("at first", new MeterBox().count(9), 0);
        MeterBox x = new MeterBox();
        for (int number : new int[] {1, 2, 16382, 16383}) {
            x.token(Bench.tokenOf(Bench.CREDIT, number, 0));
            Check.due("LAST", x.count(9), number);
        }
    }

    private static void countsTheTariff() {
        Check.sentence(PROMISE, "10 the TARIFF now");
        MeterBox x = new MeterBox();
        x.plan(0, 0, 1, 2);
        x.plan(0, 1, 2, 1);
        int[] due = {0, 2, 1, 1};
        for (int tariff : due) {
            Check.due("TIME " + x.count(6), x.count(10), tariff);
            x.use(0.0, 0.0, 1);
        }
    }

    private static void changesNothing() {
        Check.sentence(PROMISE, "what 0 .. 10.");
        for (int what = 0; what <= 10; what++) {
            int w = what;
            Look.changes("count(" + w + ")", Rich::helped, x -> x.count(w));
        }
    }
}
