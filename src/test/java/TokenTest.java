import java.util.NoSuchElementException;

/** Promise 4. */
public final class TokenTest {
    public static void main(String[] args) {
        addsCredit();
        setsPrices();
        clears();
        refusesWrongNumbers();
        refusesWrongTokens();
        refusesOldTokens();
        closesTheRelay();
        endsTheEmergency();
        isSavedBeforeTheRelayIsClosed();
        worksThoughWornOut();
        isCut();
        Check.end();
    }

    private static void addsCredit() {
        MeterBox x = new MeterBox();
        Check.due("a token as written", x.token(733091545789L), 0);
        Check.due("credit", x.read(3), 15.0);
        Check.due("saved", x.flash(0, 0), 1);
        Check.due("SUM", x.flash(0, 5), 95000165008L);
        int last = x.count(9);
        Check.due("the greatest x", x.token(Bench.tokenOf(Bench.CREDIT, last + 1, 65535)), 0);
        Check.due("credit", x.read(3), 15.0 + 655.35);
        Check.due("nothing", x.token(Bench.tokenOf(Bench.CREDIT, 16383, 0)), 0);
        Check.due("LAST", x.count(9), 16383);
        Check.due("credit", x.read(3), 15.0 + 655.35);
        Check.due("no events", x.count(1), 0);
    }

    private static void setsPrices() {
        MeterBox x = new MeterBox();
        Check.due("kind 1", x.token(1007919269817L), 1);
        Check.due("as written", x.price(1), 0.1);
        MeterBox y = new MeterBox();
        Check.due("greatest", y.token(Bench.tokenOf(Bench.PRICES, 1, 65535)), 1);
        Check.due("tariff 0", y.price(0), 21.845);
        y.token(Bench.tokenOf(Bench.PRICES, 2, 65534));
        Check.due("tariff 2, cut", y.price(2), 21.844);
        Check.due("tariff 1 as before", y.price(1), 1.0);
        y.token(Bench.tokenOf(Bench.PRICES, 3, 2));
        Check.due("nothing", y.price(2), 0.0);
        Check.due("LAST", y.count(9), 3);
        Check.due("credit as before", y.read(3), 5.0);
    }

    private static void clears() {
        MeterBox x = new MeterBox();
        x.use(300.0, 10.0, 2);
        Check.due("an event", x.count(1), 1);
        Check.due("kind 2", x.token(Bench.tokenOf(Bench.CLEAR, 1, 777)), 2);
        Check.due("highest", x.read(4), 0.0);
        Check.due("events", x.count(1), 0);
        Check.due("register stays", x.read(0), 0.05 + 0.05);
        Check.due("LAST", x.count(9), 1);
    }

    private static void refusesWrongNumbers() {
        MeterBox x = new MeterBox();
        long[] wrong = {-1, 1099511627776L, Long.MIN_VALUE, Long.MAX_VALUE, 1099511627776L + 733091545789L};
        for (long t : wrong) {
            Check.refused("token " + t, IllegalArgumentException.class, () -> x.token(t));
        }
        Check.refused("the least", UnsupportedOperationException.class, () -> x.token(0));
        Check.refused("the greatest", UnsupportedOperationException.class, () -> x.token(1099511627775L));
        Check.due("two events", x.count(1), 2);
        x.power(false);
        Check.refused("OFF", IllegalStateException.class, () -> x.token(733091545789L));
        Check.refused("OFF and wrong", IllegalArgumentException.class, () -> x.token(-1));
        Check.due("no event", x.count(1), 0);
    }

    private static void refusesWrongTokens() {
        MeterBox x = new MeterBox();
        Bench.idle(x, 9);
        long body = 5L << 16 | 100;
        for (int i = 1; i < 256; i++) {
            int check = (Bench.checkOf(body) + i) % 256;
            Check.refused("check " + check, UnsupportedOperationException.class,
                () -> x.token(Bench.tokenOfBody(body, check)));
        }
        Check.due("twelve events", x.count(1), 12);
        Check.due("EVENT 4", Bench.event(x, 11), 40009);
        Check.due("not saved", x.flash(0, 0), -1);
        Check.due("LAST", x.count(9), 0);
        MeterBox y = new MeterBox();
        Check.refused("kind 3", UnsupportedOperationException.class, () -> y.token(Bench.tokenOf(3, 9, 9)));
        Check.refused("kind 3, not new", UnsupportedOperationException.class, () -> y.token(Bench.tokenOf(3, 0, 9)));
        Check.due("two events", y.count(1), 2);
        Check.due("LAST", y.count(9), 0);
        Check.due("with all bytes in the sum", y.token(Bench.tokenOf(Bench.CLEAR, 16383, 65535)), 2);
    }

    private static void refusesOldTokens() {
        MeterBox x = new MeterBox();
        Check.refused("number 0", NoSuchElementException.class, () -> x.token(Bench.tokenOf(Bench.CREDIT, 0, 5)));
        x.token(Bench.tokenOf(Bench.CREDIT, 300, 100));
        for (int number : new int[] {300, 299, 44, 1}) {
            Check.refused("number " + number, NoSuchElementException.class,
                () -> x.token(Bench.tokenOf(Bench.CLEAR, number, 5)));
        }
        Check.due("no event", x.count(1), 0);
        Check.due("saved once", x.flash(1, 0), -1);
        Check.due("LAST", x.count(9), 300);
        Check.due("the next", x.token(Bench.tokenOf(Bench.CREDIT, 301, 100)), 0);
        Check.due("credit", x.read(3), 7.0);
    }

    private static void closesTheRelay() {
        MeterBox x = Bench.opened();
        x.token(Bench.tokenOf(Bench.CREDIT, 1, 24));
        Check.due("still below", x.count(7), 0);
        x.token(Bench.tokenOf(Bench.PRICES, 2, 3000));
        Check.due("another kind", x.count(7), 0);
        MeterBox y = Bench.opened();
        y.token(Bench.tokenOf(Bench.CREDIT, 1, 25));
        Check.due("credit 0.0", y.read(3), 0.0);
        Check.due("closed", y.count(7), 1);
        Check.due("EVENT 5", Bench.event(y, 1), 50381);
        y.token(Bench.tokenOf(Bench.CREDIT, 2, 25));
        Check.due("only once", y.count(1), 2);
    }

    private static void endsTheEmergency() {
        MeterBox x = Bench.opened();
        x.emergency();
        x.token(Bench.tokenOf(Bench.PRICES, 1, 3000));
        x.token(Bench.tokenOf(Bench.CLEAR, 2, 3000));
        Check.due("not by other kinds", x.count(8), 1);
        x.token(Bench.tokenOf(Bench.CREDIT, 3, 0));
        Check.due("by credit", x.count(8), 0);
        Check.due("may be used again", x.emergency(), 1);
    }

    private static void isSavedBeforeTheRelayIsClosed() {
        MeterBox x = Bench.opened();
        x.token(Bench.tokenOf(Bench.CREDIT, 7, 125));
        Check.due("open in the flash", x.flash(0, 1), (381L * 4 + 1) * 1000000000000L + 1000);
        Check.due("LAST in the flash", x.flash(0, 4), 7000000000L);
        Check.due("closed", x.count(7), 1);
        x.power(false);
        x.power(true);
        Check.due("open again", x.count(7), 0);
        Check.due("closed by any token", x.token(Bench.tokenOf(Bench.PRICES, 8, 0)), 1);
        Check.due("closed", x.count(7), 1);
        Check.due("EVENT 5", Bench.event(x, 0), 50381);
    }

    private static void worksThoughWornOut() {
        MeterBox x = Bench.opened();
        Bench.wearOut(x);
        Check.refused("worn out", UnsupportedOperationException.class,
            () -> x.token(Bench.tokenOf(Bench.CREDIT, 3, 125)));
        Check.due("credit", x.read(3), 1.0);
        Check.due("LAST", x.count(9), 3);
        Check.due("thrown before the relay is closed", x.count(7), 0);
        Check.due("no event", x.count(1), 1);
        Check.refused("used", NoSuchElementException.class, () -> x.token(Bench.tokenOf(Bench.CREDIT, 3, 125)));
    }

    private static void isCut() {
        MeterBox x = new MeterBox();
        x.save();
        x.cut(5);
        Check.refused("cut", ArithmeticException.class, () -> x.token(Bench.tokenOf(Bench.CREDIT, 3, 125)));
        Check.due("OFF", x.count(0), 0);
        x.power(true);
        Check.due("lost", x.read(3), 5.0);
        Check.due("lost", x.count(9), 0);
        MeterBox y = new MeterBox();
        y.cut(5);
        Check.refused("cut", ArithmeticException.class, () -> y.token(Bench.tokenOf(Bench.PRICES, 3, 0)));
        Check.due("prices do not go with the state", y.price(0), 0.0);
    }
}
