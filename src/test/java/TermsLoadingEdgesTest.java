/** The edges of Terms: LOADING. */
public final class TermsLoadingEdgesTest {
    private static final String TERMS = "Terms";

    public static void main(String[] args) {
        takesTheGreatestGoodSlot();
        passesOverTornSlots();
        dividesByAThousand();
        takesOffWhatWasAddedToWordOne();
        takesOffWhatWasAddedToWordFour();
        takesRelayAndEmergency();
        takesHighestAway();
        isAsAtFirstWithoutAGoodSlot();
        Check.end();
    }

    private static void cycle(MeterBox x) {
        x.power(false);
        x.power(true);
    }

    private static void tear(MeterBox x, int words) {
        x.cut(words);
        Check.refused("torn", ArithmeticException.class, x::save);
    }

    private static void takesTheGreatestGoodSlot() {
        Check.sentence(TERMS, "the GOOD SLOT with the greatest word 0");
        MeterBox x = new MeterBox();
        for (int i = 1; i <= 48; i++) {
            Bench.idle(x, 1);
            x.save();
            Bench.idle(x, 1);
            x.power(false);
            int good = i <= 12 ? i : 10 + (i - 1) % 3;
            Check.due("GOOD SLOTS after " + i, x.power(true), good);
            Check.due("TIME after " + i, x.count(6), i);
        }
    }

    private static void passesOverTornSlots() {
        Check.sentence(TERMS, "the GOOD SLOT with the greatest word 0");
        for (int words = 0; words <= 5; words++) {
            MeterBox x = new MeterBox();
            Bench.idle(x, 7);
            x.save();
            Bench.idle(x, 7);
            x.save();
            Bench.idle(x, 7);
            tear(x, words);
            Check.due("GOOD SLOTS", x.power(true), 2);
            Check.due("TIME of the second", x.count(6), 14);
        }
    }

    private static void dividesByAThousand() {
        Check.sentence(TERMS, "CREDIT and REGISTERS are the words' as doubles, divided by 1000.0, what was added taken off");
        MeterBox x = new MeterBox();
        x.plan(0, 0, 1, 1);
        x.plan(0, 1, 2, 2);
        x.use(230.0, 3.0, 1);
        x.use(230.0, 7.0, 1);
        x.use(230.0, 9.0, 1);
        x.save();
        cycle(x);
        Check.due("REGISTER 0", x.read(0), 11 / 1000.0);
        Check.due("REGISTER 1", x.read(1), 26 / 1000.0);
        Check.due("REGISTER 2", x.read(2), 34 / 1000.0);
        Check.due("CREDIT", x.read(3), 4927 / 1000.0);
        cycle(x);
        Check.due("REGISTER 1 again", x.read(1), 26 / 1000.0);
        MeterBox y = new MeterBox();
        y.use(100.0, 0.59, 1);
        y.save();
        cycle(y);
        Check.due("less than a thousandth is lost", y.read(0), 0.0);
        Check.due("and from the CREDIT", y.read(3), 4.999);
    }

    private static void takesOffWhatWasAddedToWordOne() {
        Check.sentence(TERMS, "it was, in word 1, as often as (word 1 + 500000000000) / 1000000000000 says");
        MeterBox x = new MeterBox();
        Bench.draw(x, 20);
        loads(x, "CREDIT 0.0", 0.0, 20);
        x.use(100.0, 0.7, 1);
        loads(x, "the first below 0", -0.001, 21);
        Bench.draw(x, 1);
        loads(x, "below 0", -0.251, 22);
        MeterBox y = new MeterBox();
        y.token(Bench.tokenOf(Bench.PRICES, 1, 3 * 21845));
        y.use(400.0, 100.0, 300);
        Check.due("far below 0", y.read(3) < -4360.0, true);
        double cut = (long) (y.read(3) * 1000.0) / 1000.0;
        loads(y, "far below 0", cut, 300);
        MeterBox z = new MeterBox();
        for (int i = 1; i <= 40; i++) {
            z.token(Bench.tokenOf(Bench.CREDIT, i, 65500));
        }
        loads(z, "far above 0 at TIME 0", 26205.0, 0);
    }

    private static void loads(MeterBox x, String what, double credit, int time) {
        x.save();
        cycle(x);
        Check.due(what + ": CREDIT", x.read(3), credit);
        Check.due(what + ": TIME", x.count(6), time);
    }

    private static void takesOffWhatWasAddedToWordFour() {
        Check.sentence(TERMS, "in word 4 as word 4 / 1000000000");
        int[] numbers = {1, 2, 8191, 8192, 16382, 16383};
        for (int number : numbers) {
            MeterBox x = new MeterBox();
            x.plan(0, 0, 0, 2);
            Bench.draw(x, 3);
            x.token(Bench.tokenOf(Bench.CLEAR, number, 0));
            cycle(x);
            Check.due("LAST", x.count(9), number);
            Check.due("REGISTER 2", x.read(2), 0.75);
        }
        MeterBox y = new MeterBox();
        y.plan(0, 0, 0, 2);
        Bench.draw(y, 3);
        y.save();
        cycle(y);
        Check.due("LAST 0", y.count(9), 0);
        Check.due("REGISTER 2", y.read(2), 0.75);
    }

    private static void takesRelayAndEmergency() {
        Check.sentence(TERMS, "TIME, RELAY, EMERGENCY, LAST");
        MeterBox x = new MeterBox();
        x.save();
        is(x, "neither", 0, 1, 0);
        MeterBox y = Bench.opened();
        y.save();
        is(y, "open", 381, 0, 0);
        y.emergency();
        y.save();
        is(y, "used", 381, 1, 1);
        Bench.draw(y, 8);
        y.save();
        is(y, "both", 389, 0, 1);
        y.token(Bench.tokenOf(Bench.CREDIT, 1, 0));
        is(y, "open again", 389, 0, 0);
    }

    private static void is(MeterBox x, String what, int time, int closed, int used) {
        cycle(x);
        Check.due(what + ": TIME", x.count(6), time);
        Check.due(what + ": RELAY", x.count(7), closed);
        Check.due(what + ": EMERGENCY", x.count(8), used);
    }

    private static void takesHighestAway() {
        Check.sentence(TERMS, "HIGHEST 0.0");
        MeterBox x = new MeterBox();
        Bench.draw(x, 1);
        x.save();
        Check.due("before", x.read(4), 15000.0);
        cycle(x);
        Check.due("after LOADING", x.read(4), 0.0);
        x.use(100.0, 1.0, 1);
        Check.due("it rises again", x.read(4), 100.0);
    }

    private static void isAsAtFirstWithoutAGoodSlot() {
        Check.sentence(TERMS, "Without a GOOD SLOT all as at first.");
        MeterBox x = Bench.opened();
        x.plan(0, 0, 0, 1);
        tear(x, 5);
        isAsAtFirst(x);
        x.plan(0, 0, 0, 2);
        Bench.draw(x, 2);
        x.cut(0);
        Check.refused("torn", ArithmeticException.class, () -> x.token(Bench.tokenOf(Bench.CREDIT, 16383, 9)));
        isAsAtFirst(x);
        MeterBox y = Bench.opened();
        y.emergency();
        y.power(false);
        isAsAtFirst(y);
    }

    private static void isAsAtFirst(MeterBox x) {
        Check.due("GOOD SLOTS", x.power(true), 0);
        double[] values = {0.0, 0.0, 0.0, 5.0, 0.0};
        for (int i = 0; i < values.length; i++) {
            Check.due("read(" + i + ")", x.read(i), values[i]);
        }
        int[] counts = {0, 1, 0, 0};
        for (int i = 0; i < counts.length; i++) {
            Check.due("count(" + (6 + i) + ")", x.count(6 + i), counts[i]);
        }
    }
}
