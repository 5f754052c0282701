/** Promise 3, and what a minute does. */
public final class UseTest {
    public static void main(String[] args) {
        measures();
        refusesWrongNumbers();
        takesTheEdges();
        opensTheRelay();
        opensOnlyByDay();
        notesHighVoltageFirst();
        savesAtTheBeginningOfADay();
        notesThatItCouldNotBeSaved();
        isCutAtTheBeginningOfADay();
        Check.end();
    }

    private static void measures() {
        MeterBox x = new MeterBox();
        x.plan(0, 0, 2, 1);
        x.plan(0, 1, 5, 2);
        x.token(Bench.tokenOf(Bench.PRICES, 1, 3 * 500 + 1));
        x.token(Bench.tokenOf(Bench.PRICES, 2, 3 * 2000 + 2));
        Check.due("ten minutes", Bench.draw(x, 10), 10);
        Check.due("register 0", x.read(0), 0.5);
        Check.due("register 1", x.read(1), 0.75);
        Check.due("register 2", x.read(2), 1.25);
        Check.due("credit", x.read(3), 5.0 - 0.5 - 0.375 - 2.5);
        Check.due("highest", x.read(4), 15000.0);
        Check.due("TIME", x.count(6), 10);
        x.use(100.0, 100.0, 1);
        Check.due("highest stays", x.read(4), 15000.0);
        x.use(151.0, 100.0, 1);
        Check.due("highest rises", x.read(4), 15100.0);
        roundsAsWritten();
    }

    private static void roundsAsWritten() {
        MeterBox x = new MeterBox();
        x.token(Bench.tokenOf(Bench.PRICES, 1, 3 * 137));
        double register = 0.0;
        double credit = 5.0;
        for (int i = 0; i < 250; i++) {
            double e = 231.7 * 13.3 / 60000.0;
            register = register + e;
            credit = credit - e * 0.137;
        }
        x.use(231.7, 13.3, 250);
        Check.due("register to the last bit", x.read(0), register);
        Check.due("credit to the last bit", x.read(3), credit);
        Check.due("highest to the last bit", x.read(4), 231.7 * 13.3);
    }

    private static void refusesWrongNumbers() {
        MeterBox x = new MeterBox();
        double[] volts = {-0.1, 400.1, Double.NaN, Double.POSITIVE_INFINITY, Double.NEGATIVE_INFINITY,
            Math.nextUp(400.0), -Double.MIN_VALUE};
        for (double v : volts) {
            Check.refused("volts " + v, IllegalArgumentException.class, () -> x.use(v, 1.0, 1));
        }
        double[] amperes = {-0.1, 100.1, Double.NaN, Double.POSITIVE_INFINITY, Double.NEGATIVE_INFINITY,
            Math.nextUp(100.0), -Double.MIN_VALUE};
        for (double a : amperes) {
            Check.refused("amperes " + a, IllegalArgumentException.class, () -> x.use(1.0, a, 1));
        }
        int[] minutes = {0, 301, -1, Integer.MIN_VALUE, Integer.MAX_VALUE};
        for (int m : minutes) {
            Check.refused("minutes " + m, IllegalArgumentException.class, () -> x.use(300.0, 1.0, m));
        }
        Check.due("nothing was changed", x.count(6), 0);
        Check.due("nothing was noted", x.count(1), 0);
        x.power(false);
        Check.refused("OFF", IllegalStateException.class, () -> x.use(1.0, 1.0, 1));
        Check.refused("OFF and wrong", IllegalArgumentException.class, () -> x.use(1.0, 1.0, 0));
        Check.due("nothing was noted", x.count(1), 0);
    }

    private static void takesTheEdges() {
        MeterBox x = new MeterBox();
        Check.due("least", x.use(0.0, 0.0, 1), 1);
        Check.due("minus nought is nought", x.use(-0.0, 0.0, 1), 1);
        Check.due("not more than nought", x.read(4), 0.0);
        Check.due("greatest", x.use(400.0, 100.0, 300), 300);
        Check.due("highest", x.read(4), 40000.0);
        Check.due("TIME", x.count(6), 302);
    }

    private static void opensTheRelay() {
        MeterBox x = new MeterBox();
        Bench.idle(x, 360);
        Check.due("down to 0.0", Bench.draw(x, 20), 20);
        Check.due("credit", x.read(3), 0.0);
        Check.due("0.0 is not below 0.0", x.count(7), 1);
        Check.due("one closed minute, then open ones", Bench.draw(x, 10), 1);
        Check.due("open", x.count(7), 0);
        Check.due("credit falls no more", x.read(3), -0.25);
        Check.due("register rises no more", x.read(0), 5.25);
        Check.due("TIME goes on", x.count(6), 390);
        Check.due("one event", x.count(1), 1);
        Check.due("EVENT 1", Bench.event(x, 0), 10381);
        x.token(Bench.tokenOf(Bench.CLEAR, 1, 0));
        Check.due("no closed minute", Bench.draw(x, 5), 0);
        Check.due("no load, no highest", x.read(4), 0.0);
    }

    private static void opensOnlyByDay() {
        MeterBox x = new MeterBox();
        Check.due("night", Bench.draw(x, 300), 300);
        Check.due("till minute 359", Bench.draw(x, 59), 59);
        Check.due("closed at 359", x.count(7), 1);
        Check.due("minute 360", Bench.draw(x, 2), 1);
        Check.due("open at 360", x.count(7), 0);
        Check.due("EVENT 1", Bench.event(x, 0), 10360);
        MeterBox y = new MeterBox();
        Bench.idle(y, 1058);
        Check.due("opens at 1079", Bench.draw(y, 22), 21);
        MeterBox z = new MeterBox();
        Bench.idle(z, 1059);
        Check.due("does not open at 1080", Bench.draw(z, 100), 100);
        Check.due("closed by night", z.count(7), 1);
        Bench.idle(z, 1440 - 1159 + 359);
        Check.due("closed at 359 of the next day", z.count(7), 1);
        Check.due("opens without load too", z.use(0.0, 0.0, 2), 1);
    }

    private static void notesHighVoltageFirst() {
        MeterBox x = new MeterBox();
        x.use(260.0, 0.0, 7);
        Check.due("260.0 is not above", x.count(1), 0);
        x.use(Math.nextUp(260.0), 0.0, 3);
        Check.due("one for a call", x.count(1), 1);
        Check.due("before the minutes", Bench.event(x, 0), 20007);
        x.use(400.0, 0.0, 1);
        Check.due("another one", Bench.event(x, 1), 20010);
        MeterBox y = Bench.opened();
        y.use(300.0, 1.0, 1);
        Check.due("with an open relay too", Bench.event(y, 1), 20381);
    }

    private static void savesAtTheBeginningOfADay() {
        MeterBox x = new MeterBox();
        Bench.idle(x, 1439);
        Check.due("not before", x.flash(0, 0), -1);
        x.use(240.0, 6.25, 1);
        Check.due("saved", x.flash(0, 0), 1);
        Check.due("with TIME now", x.flash(0, 1), 1440L * 4 * 1000000000000L + 4975);
        Check.due("with the minute's energy", x.flash(0, 2), 25);
        x.use(240.0, 0.0, 1);
        Check.due("once", x.flash(1, 0), -1);
        Bench.idle(x, 1439);
        Check.due("again", x.flash(1, 0), 2);
        Check.due("no event", x.count(1), 0);
    }

    private static void notesThatItCouldNotBeSaved() {
        MeterBox x = Bench.wornOut();
        Bench.idle(x, 1439);
        Check.due("nothing yet", x.count(1), 0);
        Check.due("goes on", Bench.draw(x, 3), 3);
        Check.due("EVENT 3", Bench.event(x, 0), 31440);
        Check.due("one event", x.count(1), 1);
        Check.due("TIME", x.count(6), 1442);
        Check.due("ON", x.count(0), 1);
    }

    private static void isCutAtTheBeginningOfADay() {
        MeterBox x = new MeterBox();
        Bench.idle(x, 1400);
        x.cut(3);
        Check.refused("cut", ArithmeticException.class, () -> x.use(300.0, 1.0, 100));
        Check.due("OFF", x.count(0), 0);
        Check.due("only EVENT 2", x.count(1), 1);
        Check.due("word 0", x.flash(0, 0), 1);
        Check.due("word 2", x.flash(0, 2), 200);
        Check.due("word 3", x.flash(0, 3), -1);
        Check.due("the cut is gone", x.cut(1), -1);
    }
}
