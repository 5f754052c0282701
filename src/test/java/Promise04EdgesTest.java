import java.util.NoSuchElementException;
import java.util.function.Supplier;

/** The edges of promise 4: token. */
public final class Promise04EdgesTest {
    private static final String PROMISE = "Promise 4";
    private static final Class<?> UNSUPPORTED = UnsupportedOperationException.class;
    private static final Class<?> NO_SUCH = NoSuchElementException.class;

    public static void main(String[] args) {
        takesNumbers();
        refusesAWrongCheck();
        refusesKindThree();
        refusesThemBeforeOldNumbers();
        refusesOldNumbers();
        takesTheNextNumber();
        isSaved();
        isCut();
        worksThoughWornOut();
        refusesBeforeSaving();
        closesTheRelayAtNought();
        closesOnlyAnOpenRelay();
        closesAtNoughtInAnEmergencyToo();
        closesWhatIsLoadedAtNought();
        isSavedBeforeItIsClosed();
        answersTheKind();
        Check.end();
    }

    private static long token(int kind, int number, int x) {
        return Bench.tokenOf(kind, number, x);
    }

    private static void takesNumbers() {
        Check.sentence(PROMISE, "A TOKEN, token 0 .. 1099511627775.");
        for (Supplier<MeterBox> made : Rich.all()) {
            for (long t : new long[] {-1, 1099511627776L, Long.MIN_VALUE, Long.MAX_VALUE}) {
                Look.refused("token " + t, IllegalArgumentException.class, made, x -> x.token(t));
            }
        }
        Look.refused("the least, a wrong CHECK", UNSUPPORTED, MeterBox::new, x -> x.token(0),
            "count(1) = 1", "EVENT 0 = 40000");
        Look.refused("the greatest, a wrong CHECK", UNSUPPORTED, MeterBox::new, x -> x.token(1099511627775L),
            "count(1) = 1", "EVENT 0 = 40000");
    }

    private static void refusesAWrongCheck() {
        Check.sentence(PROMISE, "CHECK is another one, or kind 3: UnsupportedOperationException (EVENT 4)");
        long body = 8L << 16 | 100;
        for (int other : new int[] {1, 2, 128, 254, 255}) {
            long wrong = Bench.tokenOfBody(body, (Bench.checkOf(body) + other) % 256);
            Look.refused("closed", UNSUPPORTED, Rich::closed, x -> x.token(wrong),
                "count(1) = 3", "EVENT 2 = 40122");
            Look.refused("open", UNSUPPORTED, Rich::open, x -> x.token(wrong),
                "count(1) = 4", "EVENT 3 = 40430");
        }
        Check.due("the right one", new MeterBox().token(Bench.tokenOfBody(body, Bench.checkOf(body))), 0);
    }

    private static void refusesKindThree() {
        Check.sentence(PROMISE, "CHECK is another one, or kind 3: UnsupportedOperationException (EVENT 4)");
        for (int number : new int[] {0, 7, 8, 16383}) {
            Look.refused("number " + number, UNSUPPORTED, Rich::closed, x -> x.token(token(3, number, 100)),
                "count(1) = 3", "EVENT 2 = 40122");
        }
        Look.refused("WORN OUT", UNSUPPORTED, Rich::worn, x -> x.token(token(3, 8, 100)),
            "count(1) = 4", "EVENT 3 = 40430");
    }

    private static void refusesThemBeforeOldNumbers() {
        Check.sentence(PROMISE, "CHECK is another one, or kind 3: UnsupportedOperationException (EVENT 4). Its number is not above LAST: NoSuchElementException.");
        long body = 7L << 16 | 100;
        long wrong = Bench.tokenOfBody(body, Bench.checkOf(body) ^ 1);
        Look.refused("a wrong CHECK and an old number", UNSUPPORTED, Rich::closed, x -> x.token(wrong),
            "count(1) = 3", "EVENT 2 = 40122");
        Look.refused("kind 3 and an old number", UNSUPPORTED, Rich::closed, x -> x.token(token(3, 7, 100)),
            "count(1) = 3", "EVENT 2 = 40122");
        Look.refused("an old number alone", NO_SUCH, Rich::closed, x -> x.token(token(0, 7, 100)));
    }

    private static void refusesOldNumbers() {
        Check.sentence(PROMISE, "Its number is not above LAST: NoSuchElementException.");
        for (Supplier<MeterBox> made : Rich.allOn()) {
            for (int kind = 0; kind <= 2; kind++) {
                int k = kind;
                for (int number : new int[] {0, 1, 6, 7}) {
                    Look.refused("kind " + k + ", number " + number, NO_SUCH, made, x -> x.token(token(k, number, 900)));
                }
            }
        }
        MeterBox x = new MeterBox();
        x.token(token(0, 16383, 1));
        Check.refused("nothing is above the greatest", NO_SUCH, () -> x.token(token(0, 16383, 1)));
        MeterBox y = new MeterBox();
        y.token(token(0, 256, 1));
        Check.refused("all bits count", NO_SUCH, () -> y.token(token(0, 255, 1)));
    }

    private static void takesTheNextNumber() {
        Check.sentence(PROMISE, "It works, LAST is its number");
        int[] numbers = {1, 2, 3, 255, 256, 8191, 8192, 16382, 16383};
        MeterBox x = new MeterBox();
        for (int number : numbers) {
            Check.due("number " + number, x.token(token(0, number, 100)), 0);
            Check.due("LAST", x.count(9), number);
            Check.refused("once", NO_SUCH, () -> x.token(token(0, number, 100)));
        }
        Check.due("CREDIT", x.read(3), 14.0);
    }

    private static void isSaved() {
        Check.sentence(PROMISE, "and it is SAVED");
        Look.changes("CREDIT 0.0", Rich::uncut, x -> x.token(token(0, 8, 0)), Rich.savedRows(8, "count(9) = 8"));
        Look.changes("PRICES", Rich::uncut, x -> x.token(token(1, 16383, 7)),
            Rich.savedRows(16383, "count(9) = 16383", "price(1) = 0.002"));
        Look.changes("CLEAR", Rich::uncut, x -> x.token(token(2, 9, 7)),
            Rich.savedRows(9, "count(9) = 9", "read(4) = 0.0", "count(1) = 0",
                "EVENT 0 = UnsupportedOperationException", "EVENT 1 = UnsupportedOperationException"));
        for (int kind = 0; kind <= 2; kind++) {
            MeterBox x = new MeterBox();
            Bench.draw(x, 1);
            x.token(token(kind, 3, 300));
            Check.due("word 0", x.flash(0, 0), 1);
            Check.due("word 1", x.flash(0, 1), 4 * 1000000000000L + (kind == 0 ? 7750 : 4750));
            Check.due("word 2", x.flash(0, 2), 250);
            Check.due("word 4", x.flash(0, 4), 3000000000L);
            Check.due("once", x.flash(1, 0), -1);
            x.power(false);
            Check.due("GOOD SLOTS", x.power(true), 1);
            Check.due("LAST", x.count(9), 3);
        }
    }

    private static void isCut() {
        Check.sentence(PROMISE, "what that throws is thrown on");
        for (int words = 0; words <= 5; words++) {
            MeterBox x = Bench.opened();
            x.save();
            x.cut(words);
            Check.refused("CUT " + words, ArithmeticException.class, () -> x.token(token(0, 3, 1000)));
            Check.due("OFF", x.count(0), 0);
            Check.due("no EVENT 5", x.count(1), 1);
            Check.due("the CUT is not set", x.cut(5), -1);
            Check.due("ON", x.power(true), 1);
            Check.due("CREDIT as SAVED before", x.read(3), -0.25);
            Check.due("LAST as SAVED before", x.count(9), 0);
            Check.due("open as SAVED before", x.count(7), 0);
        }
        MeterBox y = new MeterBox();
        y.use(300.0, 0.0, 1);
        y.cut(0);
        Check.refused("CLEAR", ArithmeticException.class, () -> y.token(token(2, 3, 0)));
        Check.due("it has worked: no EVENTS", y.count(1), 0);
        MeterBox z = new MeterBox();
        z.cut(0);
        Check.refused("PRICES", ArithmeticException.class, () -> z.token(token(1, 3, 0)));
        Check.due("it has worked: PRICE", z.price(0), 0.0);
    }

    private static void worksThoughWornOut() {
        Check.sentence(PROMISE, "(UnsupportedOperationException too; the TOKEN has worked)");
        Look.refused("CREDIT, and the RELAY stays open", UNSUPPORTED, Rich::worn, x -> x.token(token(0, 8, 1000)),
            "count(9) = 8", "read(3) = 9.9375");
        Look.refused("PRICES", UNSUPPORTED, Rich::worn, x -> x.token(token(1, 8, 3)),
            "count(9) = 8", "price(0) = 0.001");
        MeterBox x = Rich.worn();
        Check.refused("CLEAR", UNSUPPORTED, () -> x.token(token(2, 16383, 3)));
        Check.due("EVENTS", x.count(1), 0);
        Check.due("HIGHEST", x.read(4), 0.0);
        Check.due("LAST", x.count(9), 16383);
        Check.due("ON", x.count(0), 1);
        Check.due("the CUT is still set", x.cut(0), 3);
        Check.refused("it has been used", NO_SUCH, () -> x.token(token(2, 16383, 3)));
    }

    private static void refusesBeforeSaving() {
        Check.sentence(PROMISE, "Its number is not above LAST: NoSuchElementException.");
        Look.refused("WORN OUT and an old number", NO_SUCH, Rich::worn, x -> x.token(token(0, 7, 1000)));
        MeterBox x = new MeterBox();
        x.cut(0);
        Check.refused("a CUT and an old number", NO_SUCH, () -> x.token(token(0, 0, 1000)));
        Check.refused("a CUT and a wrong CHECK", UNSUPPORTED, () -> x.token(0));
        Check.due("ON", x.count(0), 1);
        Check.due("the CUT is still set", x.cut(0), 0);
        Check.due("nothing is SAVED", x.flash(0, 0), -1);
    }

    private static void closesTheRelayAtNought() {
        Check.sentence(PROMISE, "Then, if the RELAY is open and the CREDIT 0.0 or more, it is closed (EVENT 5).");
        int[][] due = {{0, 0}, {24, 0}, {25, 1}, {26, 1}, {65535, 1}};
        for (int[] row : due) {
            MeterBox x = Bench.opened();
            x.token(token(0, 1, row[0]));
            Check.due("x " + row[0], x.count(7), row[1]);
            Check.due("EVENTS", x.count(1), 1 + row[1]);
            if (row[1] == 1) {
                Check.due("EVENT 5", Bench.event(x, 1), 50381);
            }
        }
        MeterBox y = new MeterBox();
        Bench.idle(y, 360);
        Bench.draw(y, 20);
        y.use(1.0e-9, 1.0e-9, 1);
        y.token(token(0, 1, 0));
        Check.due("below 0.0 by little", y.count(7), 0);
        y.token(token(0, 2, 1));
        Check.due("above", y.count(7), 1);
        MeterBox used = Bench.opened();
        used.emergency();
        Bench.draw(used, 8);
        used.token(token(0, 1, 224));
        Check.due("EMERGENCY was used, CREDIT -0.01", used.count(7), 0);
        used.token(token(0, 2, 2));
        Check.due("then 0.01", used.count(7), 1);
    }

    private static void closesOnlyAnOpenRelay() {
        Check.sentence(PROMISE, "Then, if the RELAY is open and the CREDIT 0.0 or more, it is closed (EVENT 5).");
        MeterBox x = new MeterBox();
        x.token(token(0, 1, 100));
        x.token(token(1, 2, 3000));
        Check.due("closed before: no EVENT", x.count(1), 0);
        for (int kind = 0; kind <= 2; kind++) {
            // Loaded, it is open with a CREDIT above 0.0, as the token was SAVED before it was closed.
            MeterBox y = Bench.opened();
            y.token(token(0, 1, 125));
            y.power(false);
            y.power(true);
            Check.due("open", y.count(7), 0);
            y.token(token(kind, 2, 3000));
            Check.due("closed by kind " + kind, y.count(7), 1);
            Check.due("EVENTS", y.count(1), 1);
            Check.due("EVENT 5", Bench.event(y, 0), 50381);
        }
        MeterBox z = Bench.opened();
        z.token(token(1, 1, 3000));
        Check.due("PRICES with a CREDIT below 0.0", z.count(7), 0);
        z.token(token(2, 2, 0));
        Check.due("CLEAR with a CREDIT below 0.0", z.count(7), 0);
        Check.due("no EVENT", z.count(1), 0);
    }

    /** It is open with a CREDIT below the limit by less than a thousandth, which SAVING and LOADING cut off. */
    private static MeterBox loadedAtTheLimit(MeterBox x) {
        x.use(100.0, 0.24, 1);
        Check.due("open", x.count(7), 0);
        x.save();
        x.power(false);
        x.power(true);
        Check.due("open", x.count(7), 0);
        return x;
    }

    private static void closesAtNoughtInAnEmergencyToo() {
        Check.sentence(PROMISE, "Then, if the RELAY is open and the CREDIT 0.0 or more, it is closed (EVENT 5).");
        MeterBox x = Bench.opened();
        x.emergency();
        Bench.draw(x, 7);
        loadedAtTheLimit(x);
        Check.due("CREDIT", x.read(3), -2.0);
        Check.due("EMERGENCY", x.count(8), 1);
        x.token(token(1, 1, 0));
        Check.due("-2.0 is not 0.0 or more", x.count(7), 0);
        x.token(token(0, 2, 200));
        Check.due("0.0 is", x.count(7), 1);
        Check.due("EVENT 5", Bench.event(x, 0), 50389);
    }

    private static void closesWhatIsLoadedAtNought() {
        Check.sentence(PROMISE, "Then, if the RELAY is open and the CREDIT 0.0 or more, it is closed (EVENT 5).");
        for (int kind = 0; kind <= 2; kind++) {
            MeterBox x = new MeterBox();
            Bench.idle(x, 360);
            Bench.draw(x, 20);
            loadedAtTheLimit(x);
            Check.due("CREDIT", x.read(3), 0.0);
            x.token(token(kind, 1, 0));
            Check.due("closed by kind " + kind, x.count(7), 1);
            Check.due("EVENT 5", Bench.event(x, 0), 50381);
        }
    }

    private static void isSavedBeforeItIsClosed() {
        Check.sentence(PROMISE, "Then, if the RELAY is open and the CREDIT 0.0 or more, it is closed (EVENT 5).");
        MeterBox x = Bench.opened();
        x.token(token(0, 1, 125));
        Check.due("open when SAVED", x.flash(0, 1), (381 * 4 + 1) * 1000000000000L + 1000);
        Check.due("closed then", x.count(7), 1);
        Check.due("EMERGENCY is over when SAVED", savedInEmergency(), (381 * 4) * 1000000000000L - 250);
    }

    private static long savedInEmergency() {
        MeterBox x = Bench.opened();
        x.emergency();
        x.token(token(0, 1, 0));
        return x.flash(0, 1);
    }

    private static void answersTheKind() {
        Check.sentence(PROMISE, "Answers the kind.");
        MeterBox x = new MeterBox();
        Check.due("CREDIT", x.token(token(0, 1, 65535)), 0);
        Check.due("PRICES", x.token(token(1, 2, 65535)), 1);
        Check.due("CLEAR", x.token(token(2, 3, 65535)), 2);
        Check.due("CREDIT", x.token(token(0, 16383, 0)), 0);
    }
}
