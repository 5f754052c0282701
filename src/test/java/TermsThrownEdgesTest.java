import java.util.NoSuchElementException;
import java.util.function.Supplier;

/** The edges of Terms: what is thrown, in which order, and that nothing changes but as said. */
public final class TermsThrownEdgesTest {
    private static final String TERMS = "Terms";
    private static final String ORDER = "What is thrown, in this order: IllegalArgumentException: a number out of range; IllegalStateException: the METER is OFF (where it must be ON); then as the call says.";
    private static final Class<?> ARGUMENT = IllegalArgumentException.class;
    private static final Class<?> STATE = IllegalStateException.class;
    private static final Class<?> UNSUPPORTED = UnsupportedOperationException.class;

    public static void main(String[] args) {
        refusesNumbersFirst();
        refusesWhileOffNext();
        answersWhileOffWhereItMay();
        refusesAsTheCallSaysLast();
        changesNothing();
        changesNothingInAnEscape();
        Check.end();
    }

    private static void refusesNumbersFirst() {
        Check.sentence(TERMS, ORDER);
        for (Supplier<MeterBox> made : Rich.allOff()) {
            Look.refused("plan", ARGUMENT, made, x -> x.plan(2, 0, 0, 0));
            Look.refused("use", ARGUMENT, made, x -> x.use(400.1, 1.0, 1));
            Look.refused("token", ARGUMENT, made, x -> x.token(-1));
            Look.refused("cut", ARGUMENT, made, x -> x.cut(6));
            Look.refused("request", ARGUMENT, made, x -> x.request(256));
            Look.refused("flash", ARGUMENT, made, x -> x.flash(12, 0));
            Look.refused("read", ARGUMENT, made, x -> x.read(5));
            Look.refused("price", ARGUMENT, made, x -> x.price(3));
            Look.refused("count", ARGUMENT, made, x -> x.count(11));
        }
    }

    private static void refusesWhileOffNext() {
        Check.sentence(TERMS, ORDER);
        for (Supplier<MeterBox> made : Rich.allOff()) {
            Look.refused("use, which would note EVENT 2", STATE, made, x -> x.use(400.0, 100.0, 300));
            Look.refused("token, a good one", STATE, made, x -> x.token(Bench.tokenOf(Bench.PRICES, 8, 1)));
            Look.refused("token, one that would clear", STATE, made, x -> x.token(Bench.tokenOf(Bench.CLEAR, 8, 1)));
            Look.refused("token, a wrong one", STATE, made, x -> x.token(0));
            Look.refused("token, an old one", STATE, made, x -> x.token(Bench.tokenOf(Bench.CREDIT, 7, 1)));
            Look.refused("emergency", STATE, made, MeterBox::emergency);
            Look.refused("save, which would be cut", STATE, made, MeterBox::save);
            Look.refused("power(false)", STATE, made, x -> x.power(false));
            for (int b : new int[] {0, 125, 126, 255}) {
                Look.refused("request", STATE, made, x -> x.request(b));
            }
            for (int what = 0; what <= 4; what++) {
                int w = what;
                Look.refused("read", STATE, made, x -> x.read(w));
            }
            for (int what = 6; what <= 10; what++) {
                int w = what;
                Look.refused("count", STATE, made, x -> x.count(w));
            }
        }
    }

    private static void answersWhileOffWhereItMay() {
        Check.sentence(TERMS, "(where it must be ON)");
        for (Supplier<MeterBox> made : Rich.allOff()) {
            MeterBox x = made.get();
            Check.due("plan", x.plan(0, 1, 0, 0), 3);
            Check.due("cut", x.cut(1), 3);
            Check.due("flash", x.flash(4, 0), 5);
            Check.due("price", x.price(1), 0.5);
            Check.due("reply", x.reply(1), 129);
            Check.due("count(0)", x.count(0), 0);
            Check.due("count(2)", x.count(2), 1);
        }
    }

    private static void refusesAsTheCallSaysLast() {
        Check.sentence(TERMS, ORDER);
        MeterBox x = Bench.opened();
        x.emergency();
        x.power(false);
        Check.refused("emergency, used and OFF", STATE, x::emergency);
        MeterBox y = Bench.wornOut();
        y.power(false);
        Check.refused("save, WORN OUT and OFF", STATE, y::save);
        Check.refused("token, WORN OUT and OFF", STATE, () -> y.token(Bench.tokenOf(Bench.CREDIT, 1, 1)));
        y.power(true);
        Check.refused("save, WORN OUT", UNSUPPORTED, y::save);
        MeterBox z = new MeterBox();
        Bench.send(z, 126, 1);
        Check.refused("request, a wrong byte", ARGUMENT, () -> z.request(126 + 256));
        Check.refused("request, too short", STATE, () -> z.request(126));
        Check.refused("token, a wrong one with an old number", UNSUPPORTED, () -> z.token(Bench.tokenOfBody(0, 0)));
    }

    private static void changesNothing() {
        Check.sentence(TERMS, "A call that throws changes nothing, but as said.");
        for (Supplier<MeterBox> made : Rich.allOn()) {
            Look.refused("plan", ARGUMENT, made, x -> x.plan(0, 1, 1440, 1));
            Look.refused("use", ARGUMENT, made, x -> x.use(400.0, 100.0, 301));
            Look.refused("token", ARGUMENT, made, x -> x.token(1L << 40));
            Look.refused("an old token", NoSuchElementException.class, made,
                x -> x.token(Bench.tokenOf(Bench.CLEAR, 7, 1)));
            Look.refused("cut", ARGUMENT, made, x -> x.cut(-1));
            Look.refused("power(true)", STATE, made, x -> x.power(true));
            Look.refused("request", ARGUMENT, made, x -> x.request(-1));
            Look.refused("reply", IndexOutOfBoundsException.class, made, x -> x.reply(-1));
            Look.refused("flash", ARGUMENT, made, x -> x.flash(0, 6));
            Look.refused("read", ARGUMENT, made, x -> x.read(-1));
            Look.refused("price", ARGUMENT, made, x -> x.price(-1));
            Look.refused("count", ARGUMENT, made, x -> x.count(-1));
        }
        Look.refused("emergency, not needed", UNSUPPORTED, Rich::closed, MeterBox::emergency);
        Look.refused("emergency, used", UNSUPPORTED, Rich::helped, MeterBox::emergency);
        Look.refused("save, WORN OUT", UNSUPPORTED, Rich::worn, MeterBox::save);
    }

    private static void changesNothingInAnEscape() {
        Check.sentence(TERMS, "A call that throws changes nothing, but as said.");
        Look.refused("request", ARGUMENT, Rich::escaped, x -> x.request(256));
        Look.refused("power(true)", STATE, Rich::escaped, x -> x.power(true));
        Look.refused("an old token", NoSuchElementException.class, Rich::escaped,
            x -> x.token(Bench.tokenOf(Bench.CREDIT, 6, 1)));
        Check.due("the escape was begun", Bench.send(Rich.escaped(), 37, 234, 88, 126), 13);
    }
}
