/** The edges of promise 8: power. */
public final class Promise08EdgesTest {
    private static final String PROMISE = "Promise 8";

    public static void main(String[] args) {
        refusesOnWhenOn();
        refusesOffWhenOff();
        loads();
        answersTheGoodSlots();
        answersMinusOne();
        endsTheEvents();
        endsTheRequest();
        changesNothingElse();
        Check.end();
    }

    private static void refusesOnWhenOn() {
        Check.sentence(PROMISE, "on: it is ON: IllegalStateException");
        for (var made : Rich.allOn()) {
            Look.refused("power(true)", IllegalStateException.class, made, x -> x.power(true));
        }
        Look.refused("within an escape", IllegalStateException.class, Rich::escaped, x -> x.power(true));
        Look.refused("at first", IllegalStateException.class, MeterBox::new, x -> x.power(true));
        MeterBox x = Rich.off();
        x.power(true);
        Check.refused("twice", IllegalStateException.class, () -> x.power(true));
    }

    private static void refusesOffWhenOff() {
        Check.sentence(PROMISE, "Not on: it is OFF: IllegalStateException");
        Look.refused("OFF by power", IllegalStateException.class, Rich::off, x -> x.power(false));
        Look.refused("OFF by a CUT, EVENTS are kept", IllegalStateException.class, Rich::torn, x -> x.power(false));
    }

    private static void loads() {
        Check.sentence(PROMISE, "it is, LOADING");
        MeterBox x = Rich.off();
        x.power(true);
        Check.due("ON", x.count(0), 1);
        Check.due("TIME of the latest SAVING", x.count(6), 122);
        Check.due("CREDIT", x.read(3), 4.312);
        Check.due("LAST", x.count(9), 7);
        Check.due("HIGHEST", x.read(4), 0.0);
        MeterBox y = Rich.torn();
        y.power(true);
        Check.due("TIME", y.count(6), 122);
        MeterBox z = new MeterBox();
        Bench.draw(z, 5);
        z.power(false);
        z.power(true);
        Check.due("nothing to load", z.read(3), 5.0);
        Check.due("nothing to load", z.count(6), 0);
    }

    private static void answersTheGoodSlots() {
        Check.sentence(PROMISE, "answers how many SLOTS are GOOD");
        MeterBox x = new MeterBox();
        x.power(false);
        Check.due("none", x.power(true), 0);
        for (int i = 1; i <= 48; i++) {
            x.save();
            x.power(false);
            Check.due("after " + i, x.power(true), i <= 12 ? i : 10 + (i - 1) % 3);
        }
        MeterBox y = new MeterBox();
        for (int i = 0; i < 12; i++) {
            y.save();
        }
        y.cut(5);
        Check.refused("torn", ArithmeticException.class, y::save);
        Check.due("three ERASED, none written", y.power(true), 9);
    }

    private static void answersMinusOne() {
        Check.sentence(PROMISE, "it is; answers -1");
        for (var made : Rich.allOn()) {
            MeterBox x = made.get();
            Check.due("power(false)", x.power(false), -1);
            Check.due("OFF", x.count(0), 0);
            Check.refused("OFF", IllegalStateException.class, () -> x.read(0));
        }
    }

    private static void endsTheEvents() {
        Check.sentence(PROMISE, "EVENTS are none, a REQUEST is begun no more.");
        for (int events : new int[] {1, 12, 13}) {
            MeterBox x = new MeterBox();
            for (int i = 0; i < events; i++) {
                x.use(300.0, 0.0, 1);
            }
            x.power(false);
            Check.due("OFF", x.count(1), 0);
            x.power(true);
            Check.due("ON", x.count(1), 0);
            Check.refused("EVENT 0", UnsupportedOperationException.class, () -> Bench.event(x, 0));
            x.use(300.0, 0.0, 1);
            Check.due("the next is the first", Bench.event(x, 0), 20000);
        }
    }

    private static void endsTheRequest() {
        Check.sentence(PROMISE, "EVENTS are none, a REQUEST is begun no more.");
        int[][] begun = {{126}, {126, 0}, {126, 0, 5, 234, 88}, {126, 125}, {126, 0, 125}};
        for (int[] bytes : begun) {
            MeterBox x = new MeterBox();
            Bench.send(x, bytes);
            x.power(false);
            x.power(true);
            Check.due("passed over", Bench.send(x, 0, 5, 234, 88), 0);
            Check.due("the flag begins one", x.request(126), 0);
            Check.due("it is whole", Bench.send(x, 0, 5, 234, 88, 126), 13);
        }
        MeterBox y = new MeterBox();
        Bench.send(y, 126, 125);
        y.power(false);
        y.power(true);
        Check.due("no escape is left", Bench.send(y, 126, 0, 5, 234, 88, 126), 13);
    }

    private static void changesNothingElse() {
        Check.sentence(PROMISE, "Not on: it is OFF: IllegalStateException; it is; answers -1.");
        MeterBox x = Rich.closed();
        MeterBox y = Rich.closed();
        y.power(false);
        for (int slot = 0; slot < 12; slot++) {
            for (int word = 0; word < 6; word++) {
                Check.due("FLASH", y.flash(slot, word), x.flash(slot, word));
            }
        }
        for (int s = 0; s < 4; s++) {
            Check.due("WEAR", y.count(2 + s), x.count(2 + s));
            if (s < 3) {
                Check.due("PRICE", y.price(s), x.price(s));
            }
        }
        for (int i = 0; i < 13; i++) {
            Check.due("REPLY", y.reply(i), x.reply(i));
        }
        Check.due("CUT", y.cut(0), 3);
        Check.due("PLAN 0", y.plan(0, 1, 0, -1), 2);
        Check.due("PLAN 1", y.plan(1, 0, 0, -1), 2);
    }
}
