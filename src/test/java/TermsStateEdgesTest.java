import java.util.NoSuchElementException;

/** The edges of Terms: what the METER has, at first and over power. */
public final class TermsStateEdgesTest {
    private static final String TERMS = "Terms";

    public static void main(String[] args) {
        isOnAtFirst();
        isNoughtAtFirst();
        hasNoLastAtFirst();
        isClosedAtFirst();
        isNotInEmergencyAtFirst();
        keepsPrices();
        keepsPlans();
        answersTheLastCall();
        Check.end();
    }

    private static void isOnAtFirst() {
        Check.sentence(TERMS, "The METER is ON (at first) or OFF.");
        MeterBox x = new MeterBox();
        Check.due("count(0)", x.count(0), 1);
        Look.refused("power(true)", IllegalStateException.class, MeterBox::new, y -> y.power(true));
        Check.due("power(false)", x.power(false), -1);
        Check.due("count(0)", x.count(0), 0);
    }

    private static void isNoughtAtFirst() {
        Check.sentence(TERMS, "doubles, all 0 at first, but the CREDIT 5.0");
        MeterBox x = new MeterBox();
        Check.due("TIME", x.count(6), 0);
        Check.due("CREDIT", x.read(3), 5.0);
        for (int i : new int[] {0, 1, 2, 4}) {
            Check.due("read(" + i + ")", x.read(i), 0.0);
        }
        x.use(0.3, 0.1, 1);
        Check.due("REGISTER 0 is a double", x.read(0), 0.3 * 0.1 / 60000.0);
        Check.due("CREDIT is a double", x.read(3), 5.0 - 0.3 * 0.1 / 60000.0);
        Check.due("HIGHEST is a double", x.read(4), 0.3 * 0.1);
    }

    private static void hasNoLastAtFirst() {
        Check.sentence(TERMS, "the greatest LAST token, 0 at first");
        MeterBox x = new MeterBox();
        Check.due("LAST", x.count(9), 0);
        Look.refused("number 0", NoSuchElementException.class, MeterBox::new,
            y -> y.token(Bench.tokenOf(Bench.CREDIT, 0, 100)));
        Check.due("number 1", x.token(Bench.tokenOf(Bench.CREDIT, 1, 100)), 0);
        Check.due("LAST", x.count(9), 1);
    }

    private static void isClosedAtFirst() {
        Check.sentence(TERMS, "the RELAY closed (at first) or open");
        Check.due("at first", new MeterBox().count(7), 1);
        Check.due("the first minute", new MeterBox().use(230.0, 1.0, 1), 1);
        Check.due("open", Bench.opened().count(7), 0);
    }

    private static void isNotInEmergencyAtFirst() {
        Check.sentence(TERMS, "EMERGENCY used or not (not at first)");
        MeterBox x = new MeterBox();
        Check.due("at first", x.count(8), 0);
        Bench.draw(x, 21);
        Check.due("it can be used", x.emergency(), 1);
        Check.due("used", x.count(8), 1);
    }

    private static void keepsPrices() {
        Check.sentence(TERMS, "What does not go with the STATE: PRICES of TARIFFS 0 .. 2, 1.0 at first");
        for (int tariff = 0; tariff < 3; tariff++) {
            Check.due("at first", new MeterBox().price(tariff), 1.0);
        }
        MeterBox x = new MeterBox();
        for (int tariff = 0; tariff < 3; tariff++) {
            x.cut(5);
            long token = Bench.tokenOf(Bench.PRICES, 1, 3 * (2000 + tariff) + tariff);
            Check.refused("cut", ArithmeticException.class, () -> x.token(token));
            Check.due("OFF", x.price(tariff), (2000 + tariff) / 1000.0);
            Check.due("no GOOD SLOT", x.power(true), 0);
        }
        for (int tariff = 0; tariff < 3; tariff++) {
            Check.due("without a GOOD SLOT", x.price(tariff), (2000 + tariff) / 1000.0);
        }
        x.save();
        x.token(Bench.tokenOf(Bench.PRICES, 1, 3 * 77));
        x.power(false);
        x.power(true);
        Check.due("with GOOD SLOTS", x.price(0), 0.077);
        Check.due("with GOOD SLOTS", x.price(1), 2.001);
        Check.due("with GOOD SLOTS", x.price(2), 2.002);
        Bench.draw(x, 4);
        Check.due("it is the one that is paid", x.read(3), 5.0 - 0.25 * 0.077 - 0.25 * 0.077 - 0.25 * 0.077 - 0.25 * 0.077);
    }

    private static void keepsPlans() {
        Check.sentence(TERMS, "PLANS: for days 0 and 1 a row of four ENTRIES, each a minute of the day and a TARIFF or none (at first)");
        for (int day = 0; day < 2; day++) {
            for (int entry = 0; entry < 4; entry++) {
                Check.due("none at first", new MeterBox().plan(day, entry, 0, -1), 0);
                Check.due("the first one", new MeterBox().plan(day, entry, 0, 0), 1);
            }
        }
        MeterBox x = new MeterBox();
        Bench.idle(x, 720);
        for (int entry = 0; entry < 4; entry++) {
            x.plan(0, entry, 100 * entry, 1 + entry % 2);
            x.plan(1, entry, 100 * entry, 1 + entry % 2);
        }
        Check.due("the fourth ENTRY", x.count(10), 2);
        x.power(false);
        x.power(true);
        Check.due("TIME 0", x.count(10), 1);
        for (int day = 0; day < 2; day++) {
            for (int entry = 0; entry < 4; entry++) {
                Check.due("left after power", x.plan(day, entry, 0, -1), 3 - entry);
            }
        }
        Check.due("none again", x.count(10), 0);
    }

    private static void answersTheLastCall() {
        Check.sentence("What it is", "An object is used for at most 512 calls after it has been made");
        MeterBox x = new MeterBox();
        for (int i = 1; i <= 510; i++) {
            x.use(0.0, 0.0, 300);
        }
        Check.due("the 511th call", x.count(6), 153000);
        Check.due("the 512th call", x.use(0.0, 0.0, 300), 300);
        MeterBox y = new MeterBox();
        for (int i = 1; i <= 511; i++) {
            tokenThoughWornOut(y, Bench.tokenOf(Bench.CREDIT, i, 100));
        }
        Check.due("the 512th call", y.read(3), 516.0);
    }

    private static void tokenThoughWornOut(MeterBox x, long token) {
        try {
            x.token(token);
        } catch (UnsupportedOperationException e) {
            // There are more tokens than savings; each has worked.
        }
    }
}
