/** The edges of promise 1: a new object. */
public final class Promise01EdgesTest {
    private static final String PROMISE = "Promise 1";

    public static void main(String[] args) {
        isAsSaid();
        hasNoEvents();
        hasNoCut();
        hasNoRequest();
        sharesNothing();
        Check.end();
    }

    private static void isAsSaid() {
        Check.sentence(PROMISE, "As said");
        MeterBox x = new MeterBox();
        int[] counts = {1, 0, 0, 0, 0, 0, 0, 1, 0, 0, 0};
        for (int i = 0; i < counts.length; i++) {
            Check.due("count(" + i + ")", x.count(i), counts[i]);
        }
        double[] values = {0.0, 0.0, 0.0, 5.0, 0.0};
        for (int i = 0; i < values.length; i++) {
            Check.due("read(" + i + ")", x.read(i), values[i]);
        }
        for (int tariff = 0; tariff < 3; tariff++) {
            Check.due("price", x.price(tariff), 1.0);
        }
        Check.due("no GOOD SLOT", new MeterBox().power(false), -1);
        Check.refused("no REPLY", IndexOutOfBoundsException.class, () -> x.reply(0));
    }

    private static void hasNoEvents() {
        Check.sentence(PROMISE, "no EVENTS");
        Check.due("EVENTS", new MeterBox().count(1), 0);
        Check.refused("EVENT 0", UnsupportedOperationException.class, () -> Bench.event(new MeterBox(), 0));
    }

    private static void hasNoCut() {
        Check.sentence(PROMISE, "no CUT");
        for (int words = 0; words <= 5; words++) {
            Check.due("what was set", new MeterBox().cut(words), -1);
        }
        Check.due("SAVING is whole", new MeterBox().save(), 1);
    }

    private static void hasNoRequest() {
        Check.sentence(PROMISE, "no REQUEST");
        MeterBox x = new MeterBox();
        Check.due("passed over", Bench.send(x, 0, 5, 234, 88, 126), 0);
        Check.due("that flag began one", Bench.send(x, 0, 5, 234, 88, 126), 13);
        Check.due("an escape outside", Bench.send(new MeterBox(), 125, 126, 0, 5, 234, 88, 126), 13);
    }

    private static void sharesNothing() {
        Check.sentence(PROMISE, "As said");
        Rich.open();
        MeterBox x = new MeterBox();
        Check.due("CREDIT", x.read(3), 5.0);
        Check.due("PRICE", x.price(0), 1.0);
        Check.due("RELAY", x.count(7), 1);
        Check.due("EVENTS", x.count(1), 0);
        Check.due("CUT", x.cut(0), -1);
        Check.due("ENTRIES", x.plan(0, 3, 0, -1), 0);
        Check.due("FLASH", x.flash(0, 0), -1);
        Check.refused("REPLY", IndexOutOfBoundsException.class, () -> x.reply(0));
    }
}
