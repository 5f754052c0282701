/** The edges of promise 13: price. */
public final class Promise13EdgesTest {
    private static final String PROMISE = "Promise 13";

    public static void main(String[] args) {
        takesTariffs();
        answersEach();
        goesOnOrOff();
        Check.end();
    }

    private static void takesTariffs() {
        Check.sentence(PROMISE, "The PRICE of a TARIFF 0 .. 2.");
        Look.outOfRange("tariff", 0, 2, MeterBox::price);
        Look.withinRange("tariff", 0, 2, n -> new MeterBox().price(n));
    }

    private static void answersEach() {
        Check.sentence(PROMISE, "The PRICE of a TARIFF 0 .. 2.");
        double[] due = {2.0, 0.5, 0.25};
        for (int tariff = 0; tariff < 3; tariff++) {
            int t = tariff;
            Check.due("at first", new MeterBox().price(t), 1.0);
            Check.due("set", Rich.closed().price(t), due[t]);
            Look.changes("nothing is changed", Rich::closed, x -> x.price(t));
        }
    }

    private static void goesOnOrOff() {
        Check.sentence(PROMISE, "(ON or OFF.)");
        double[] due = {2.0, 0.5, 0.25};
        for (int tariff = 0; tariff < 3; tariff++) {
            Check.due("OFF by power", Rich.off().price(tariff), due[tariff]);
            Check.due("OFF by a CUT", Rich.torn().price(tariff), due[tariff]);
        }
        MeterBox x = Rich.torn();
        x.power(true);
        Check.due("ON again", x.price(0), 2.0);
    }
}
