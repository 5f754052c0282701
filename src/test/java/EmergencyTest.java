/** Promise 5. */
public final class EmergencyTest {
    public static void main(String[] args) {
        refuses();
        closesTheRelay();
        lastsDownToMinusTwo();
        leavesTheRelayOpenBelowMinusTwo();
        answersForAClosedRelay();
        Check.end();
    }

    private static void refuses() {
        MeterBox x = new MeterBox();
        Check.refused("credit above", UnsupportedOperationException.class, x::emergency);
        Bench.draw(x, 20);
        Check.refused("credit 0.0", UnsupportedOperationException.class, x::emergency);
        Check.due("not used", x.count(8), 0);
        MeterBox y = Bench.opened();
        y.emergency();
        Check.refused("used", UnsupportedOperationException.class, y::emergency);
        Check.due("still used", y.count(8), 1);
        y.power(false);
        Check.refused("OFF", IllegalStateException.class, y::emergency);
    }

    private static void closesTheRelay() {
        MeterBox x = Bench.opened();
        Check.due("closed", x.emergency(), 1);
        Check.due("closed", x.count(7), 1);
        Check.due("used", x.count(8), 1);
        Check.due("EVENT 5", Bench.event(x, 1), 50381);
        Check.due("two events", x.count(1), 2);
        Check.due("not saved", x.flash(0, 0), -1);
    }

    private static void lastsDownToMinusTwo() {
        MeterBox x = Bench.opened();
        x.emergency();
        Check.due("down to -2.0", Bench.draw(x, 7), 7);
        Check.due("credit", x.read(3), -2.0);
        Check.due("closed", x.count(7), 1);
        Check.due("below", Bench.draw(x, 5), 1);
        Check.due("open", x.count(7), 0);
        Check.due("EVENT 1", Bench.event(x, 2), 10389);
        Check.refused("used", UnsupportedOperationException.class, x::emergency);
    }

    private static void leavesTheRelayOpenBelowMinusTwo() {
        MeterBox x = new MeterBox();
        Bench.idle(x, 331);
        Bench.draw(x, 29);
        Check.due("credit", x.read(3), -2.25);
        Check.due("open", x.emergency(), 0);
        Check.due("open", x.count(7), 0);
        Check.due("used all the same", x.count(8), 1);
        Check.due("no event but EVENT 1", x.count(1), 1);
        MeterBox y = new MeterBox();
        Bench.idle(y, 332);
        Bench.draw(y, 28);
        Check.due("credit", y.read(3), -2.0);
        Check.due("-2.0 is not below", y.emergency(), 1);
        Check.due("EVENT 5", Bench.event(y, 1), 50360);
    }

    private static void answersForAClosedRelay() {
        MeterBox x = new MeterBox();
        Bench.draw(x, 40);
        Check.due("closed by night", x.emergency(), 1);
        Check.due("no event", x.count(1), 0);
        Check.due("used", x.count(8), 1);
    }
}
