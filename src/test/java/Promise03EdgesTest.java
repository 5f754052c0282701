import java.util.function.Supplier;

/** The edges of promise 3: use. */
public final class Promise03EdgesTest {
    private static final String PROMISE = "Promise 3";
    private static final double[] NEVER = {
        -Double.MIN_VALUE, -1.0, Double.NaN, Double.POSITIVE_INFINITY, Double.NEGATIVE_INFINITY, Double.MAX_VALUE,
    };

    public static void main(String[] args) {
        takesVolts();
        takesAmperes();
        takesMinutes();
        passesSoManyMinutes();
        notesHighVoltage();
        notesItFirst();
        isCut();
        goesOnBehindTheBeginningOfADay();
        answersTheClosedMinutes();
        Check.end();
    }

    private static void takesVolts() {
        Check.sentence(PROMISE, "volts 0.0 .. 400.0");
        for (Supplier<MeterBox> made : Rich.all()) {
            Look.refused("above", IllegalArgumentException.class, made, x -> x.use(Math.nextUp(400.0), 1.0, 1));
            for (double volts : NEVER) {
                Look.refused("volts " + volts, IllegalArgumentException.class, made, x -> x.use(volts, 1.0, 1));
            }
        }
        MeterBox x = new MeterBox();
        Check.due("the least", x.use(0.0, 100.0, 1), 1);
        Check.due("no load", x.read(4), 0.0);
        Check.due("the greatest", x.use(400.0, 1.0, 1), 1);
        Check.due("the load", x.read(4), 400.0);
        Check.due("-0.0 is 0.0", x.use(-0.0, 100.0, 1), 1);
        Check.due("nothing measured", x.read(0), 400.0 / 60000.0);
    }

    private static void takesAmperes() {
        Check.sentence(PROMISE, "amperes 0.0 .. 100.0");
        for (Supplier<MeterBox> made : Rich.all()) {
            // With volts for EVENT 2, which must not be noted.
            Look.refused("above", IllegalArgumentException.class, made, x -> x.use(300.0, Math.nextUp(100.0), 1));
            for (double amperes : NEVER) {
                Look.refused("amperes " + amperes, IllegalArgumentException.class, made,
                    x -> x.use(300.0, amperes, 1));
            }
        }
        MeterBox x = new MeterBox();
        Check.due("the least", x.use(100.0, 0.0, 1), 1);
        Check.due("no load", x.read(4), 0.0);
        Check.due("the greatest", x.use(100.0, 100.0, 1), 1);
        Check.due("the load", x.read(4), 10000.0);
        Check.due("-0.0 is 0.0", x.use(100.0, -0.0, 1), 1);
    }

    private static void takesMinutes() {
        Check.sentence(PROMISE, "minutes 1 .. 300");
        Look.outOfRange("minutes", 1, 300, (x, n) -> x.use(300.0, 1.0, n));
        Look.withinRange("minutes", 1, 300, n -> new MeterBox().use(230.0, 1.0, n));
    }

    private static void passesSoManyMinutes() {
        Check.sentence(PROMISE, "So many MINUTES.");
        for (int minutes : new int[] {1, 2, 299, 300}) {
            MeterBox x = new MeterBox();
            Check.due("closed", x.use(60.0, 1.0, minutes), minutes);
            Check.due("TIME", x.count(6), minutes);
            double register = 0.0;
            for (int i = 0; i < minutes; i++) {
                register += 60.0 / 60000.0;
            }
            Check.due("REGISTER 0, MINUTE by MINUTE", x.read(0), register);
        }
        Look.changes("nothing else", Rich::closed, x -> Bench.draw(x, 2),
            "count(6) = 124", "read(2) = 0.75", "read(3) = 4.1875");
        Look.changes("nothing else, open", Rich::open, x -> Bench.draw(x, 3), "count(6) = 433");
    }

    private static void notesHighVoltage() {
        Check.sentence(PROMISE, "volts above 260.0: EVENT 2 first");
        Look.changes("260.0", MeterBox::new, x -> x.use(260.0, 0.0, 1), "count(6) = 1");
        MeterBox x = new MeterBox();
        x.use(Math.nextUp(260.0), 0.0, 300);
        Check.due("one for all its MINUTES", x.count(1), 1);
        Check.due("EVENT 2", Bench.event(x, 0), 20000);
        x.use(400.0, 0.0, 1);
        Check.due("one more", Bench.event(x, 1), 20300);
        x.use(260.0, 0.0, 1);
        Check.due("not above", x.count(1), 2);
        MeterBox y = Bench.opened();
        y.use(261.0, 100.0, 1);
        Check.due("with an open RELAY", Bench.event(y, 1), 20381);
    }

    private static void notesItFirst() {
        Check.sentence(PROMISE, "volts above 260.0: EVENT 2 first");
        MeterBox x = new MeterBox();
        Bench.idle(x, 359);
        x.use(400.0, 100.0, 60);
        Check.due("EVENT 2 before EVENT 1", Bench.event(x, 0), 20359);
        Check.due("EVENT 1", Bench.event(x, 1), 10367);
        MeterBox y = Bench.wornOut();
        Bench.idle(y, 1435);
        y.use(261.0, 0.0, 10);
        Check.due("EVENT 2 before EVENT 3", Bench.event(y, 0), 21435);
        Check.due("EVENT 3", Bench.event(y, 1), 31440);
        MeterBox z = new MeterBox();
        Bench.idle(z, 1439);
        z.cut(0);
        Check.refused("cut", ArithmeticException.class, () -> z.use(261.0, 0.0, 10));
        Check.due("EVENT 2 before a CUT", z.count(1), 1);
    }

    private static void isCut() {
        Check.sentence(PROMISE, "SAVING in a MINUTE is cut: it is OFF, ArithmeticException.");
        for (int words = 0; words <= 5; words++) {
            MeterBox x = new MeterBox();
            Bench.draw(x, 2);
            Bench.idle(x, 1430);
            x.save();
            x.cut(words);
            Check.due("not before", x.use(150.0, 1.0, 7), 7);
            Check.refused("CUT " + words, ArithmeticException.class, () -> x.use(150.0, 1.0, 300));
            Check.due("OFF", x.count(0), 0);
            Check.due("no EVENT", x.count(1), 0);
            for (int i = 0; i < 6; i++) {
                Check.due("word " + i, x.flash(1, i) != -1, i < words);
            }
            Check.due("the CUT is not set", x.cut(0), -1);
            Check.due("ON", x.power(true), 1);
            Check.due("TIME of the SLOT before", x.count(6), 1432);
            Check.due("CREDIT of the SLOT before", x.read(3), 4.5);
        }
        MeterBox y = new MeterBox();
        Bench.idle(y, 1430);
        y.cut(0);
        Check.due("up to the day's last minute", y.use(230.0, 0.0, 9), 9);
        Check.due("ON", y.count(0), 1);
        Check.refused("a number out of range comes first", IllegalArgumentException.class,
            () -> y.use(230.0, 0.0, 301));
        Check.refused("the next MINUTE", ArithmeticException.class, () -> y.use(230.0, 0.0, 1));
        Check.refused("OFF", IllegalStateException.class, () -> y.use(230.0, 0.0, 1));
    }

    private static void goesOnBehindTheBeginningOfADay() {
        Check.sentence(PROMISE, "So many MINUTES.");
        MeterBox x = new MeterBox();
        Bench.idle(x, 1400);
        Check.due("over the end of a day", x.use(60.0, 1.0, 300), 300);
        Check.due("TIME", x.count(6), 1700);
        Check.due("SAVED on the way", x.flash(0, 1), 5760 * 1000000000000L + 4959);
    }

    private static void answersTheClosedMinutes() {
        Check.sentence(PROMISE, "Answers in how many the RELAY was closed.");
        for (int closed = 1; closed <= 6; closed++) {
            MeterBox x = new MeterBox();
            x.token(Bench.tokenOf(Bench.PRICES, 1, 3 * 20000));
            x.token(Bench.tokenOf(Bench.CREDIT, 2, 500 * closed - 500));
            Bench.idle(x, 500);
            // The CREDIT is 5.0 for each, and a MINUTE takes as much; the next one goes below.
            Check.due("the RELAY opens in the last of them", Bench.draw(x, 10), closed + 1);
            Check.due("open", x.count(7), 0);
            Check.due("open all the time", Bench.draw(x, 10), 0);
        }
        MeterBox y = new MeterBox();
        Check.due("closed all the time", y.use(0.0, 0.0, 300), 300);
    }
}
