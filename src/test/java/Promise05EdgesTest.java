/** The edges of promise 5: emergency. */
public final class Promise05EdgesTest {
    private static final String PROMISE = "Promise 5";
    private static final Class<?> UNSUPPORTED = UnsupportedOperationException.class;

    public static void main(String[] args) {
        refusesWhatWasUsed();
        refusesWithCredit();
        isUsed();
        closesDownToMinusTwo();
        closesOnlyAnOpenRelay();
        answersWhetherItIsClosed();
        isNotSaved();
        Check.end();
    }

    /** CREDIT -2.0 or -2.25, the RELAY open at TIME 360. */
    private static MeterBox openAt(int quarters) {
        MeterBox x = new MeterBox();
        Bench.idle(x, 360 - quarters);
        Bench.draw(x, quarters);
        return x;
    }

    private static void refusesWhatWasUsed() {
        Check.sentence(PROMISE, "EMERGENCY was used, or the CREDIT is 0.0 or more: UnsupportedOperationException.");
        Look.refused("used, closed", UNSUPPORTED, Rich::helped, MeterBox::emergency);
        Look.refused("used, open", UNSUPPORTED, () -> {
            MeterBox x = openAt(29);
            x.emergency();
            return x;
        }, MeterBox::emergency);
        MeterBox loaded = Bench.opened();
        loaded.emergency();
        loaded.save();
        loaded.power(false);
        loaded.power(true);
        Check.refused("used before LOADING", UNSUPPORTED, loaded::emergency);
    }

    private static void refusesWithCredit() {
        Check.sentence(PROMISE, "EMERGENCY was used, or the CREDIT is 0.0 or more: UnsupportedOperationException.");
        Look.refused("5.0", UNSUPPORTED, MeterBox::new, MeterBox::emergency);
        Look.refused("0.0", UNSUPPORTED, () -> {
            MeterBox x = new MeterBox();
            Bench.draw(x, 20);
            return x;
        }, MeterBox::emergency);
        MeterBox x = new MeterBox();
        Bench.draw(x, 20);
        x.use(1.0e-9, 1.0e-9, 1);
        Check.due("below 0.0 by little", x.emergency(), 1);
        Look.refused("open, but loaded with 0.0", UNSUPPORTED, () -> {
            MeterBox y = new MeterBox();
            Bench.idle(y, 360);
            Bench.draw(y, 20);
            y.use(100.0, 0.24, 1);
            y.save();
            y.power(false);
            y.power(true);
            return y;
        }, MeterBox::emergency);
        // SAVED with an open RELAY and loaded, it is open with a CREDIT above 0.0.
        Look.refused("open, but 1.0", UNSUPPORTED, () -> {
            MeterBox y = Bench.opened();
            y.token(Bench.tokenOf(Bench.CREDIT, 1, 125));
            y.power(false);
            y.power(true);
            return y;
        }, MeterBox::emergency);
    }

    private static void isUsed() {
        Check.sentence(PROMISE, "It is; the RELAY is closed if it was open and the CREDIT is not below -2.0 (EVENT 5).");
        Look.changes("open", Rich::open, MeterBox::emergency,
            "count(8) = 1", "count(7) = 1", "count(1) = 4", "EVENT 3 = 50430");
    }

    private static void closesDownToMinusTwo() {
        Check.sentence(PROMISE, "It is; the RELAY is closed if it was open and the CREDIT is not below -2.0 (EVENT 5).");
        Look.changes("-1.75", () -> openAt(27), MeterBox::emergency,
            "count(8) = 1", "count(7) = 1", "count(1) = 2", "EVENT 1 = 50360");
        Look.changes("-2.0", () -> openAt(28), MeterBox::emergency,
            "count(8) = 1", "count(7) = 1", "count(1) = 2", "EVENT 1 = 50360");
        Look.changes("-2.25", () -> openAt(29), MeterBox::emergency, "count(8) = 1");
        MeterBox x = new MeterBox();
        Bench.idle(x, 331);
        Bench.draw(x, 28);
        x.use(2.664e-11, 1.0, 1);
        Check.due("below -2.0 by the least", x.read(3), Math.nextDown(-2.0));
        Check.due("open", x.count(7), 0);
        Check.due("stays open", x.emergency(), 0);
        Check.due("used", x.count(8), 1);
        Check.due("no EVENT 5", x.count(1), 1);
    }

    private static void closesOnlyAnOpenRelay() {
        Check.sentence(PROMISE, "the RELAY is closed if it was open");
        MeterBox x = new MeterBox();
        Bench.draw(x, 21);
        Check.due("closed before", x.emergency(), 1);
        Check.due("no EVENT 5", x.count(1), 0);
        MeterBox y = new MeterBox();
        Bench.draw(y, 100);
        Check.due("CREDIT", y.read(3), -20.0);
        Check.due("closed by night, far below -2.0", y.emergency(), 1);
        Check.due("closed", y.count(7), 1);
        Check.due("no EVENT 5", y.count(1), 0);
    }

    private static void answersWhetherItIsClosed() {
        Check.sentence(PROMISE, "Answers 1 if it is closed, else 0.");
        Check.due("opened by 0.25", Bench.opened().emergency(), 1);
        Check.due("at -2.0", openAt(28).emergency(), 1);
        Check.due("at -2.25", openAt(29).emergency(), 0);
    }

    private static void isNotSaved() {
        Check.sentence(PROMISE, "It is");
        MeterBox x = Bench.opened();
        x.save();
        x.emergency();
        Check.due("no SAVING", x.flash(1, 0), -1);
        x.power(false);
        x.power(true);
        Check.due("lost with power", x.count(8), 0);
        Check.due("open again", x.count(7), 0);
        x.cut(0);
        Check.due("no CUT comes", x.emergency(), 1);
    }
}
