/** Promise 8, and loading. */
public final class PowerTest {
    public static void main(String[] args) {
        goesOnAndOff();
        beginsAnewWithoutAGoodSlot();
        loadsAll();
        loadsBelowNought();
        loadsTheNewest();
        endsEventsAndRequest();
        keepsPricesPlansAndReply();
        Check.end();
    }

    private static void goesOnAndOff() {
        MeterBox x = new MeterBox();
        Check.refused("ON", IllegalStateException.class, () -> x.power(true));
        Check.due("off", x.power(false), -1);
        Check.due("OFF", x.count(0), 0);
        Check.refused("OFF", IllegalStateException.class, () -> x.power(false));
        Check.due("on, none is good", x.power(true), 0);
        Check.due("ON", x.count(0), 1);
        x.use(300.0, 0.0, 1);
        x.request(126);
        Check.refused("ON", IllegalStateException.class, () -> x.power(true));
        Check.due("a call that throws changes nothing", x.count(1), 1);
        Check.due("a call that throws changes nothing", Bench.send(x, tail(Bench.frame(2, 0))), 13);
    }

    private static int[] tail(int[] bytes) {
        return java.util.Arrays.copyOfRange(bytes, 1, bytes.length);
    }

    private static void beginsAnewWithoutAGoodSlot() {
        MeterBox opened = Bench.opened();
        opened.power(false);
        isAsAtFirst(opened);
        MeterBox helped = Bench.opened();
        helped.emergency();
        helped.power(false);
        isAsAtFirst(helped);
        MeterBox torn = new MeterBox();
        torn.cut(5);
        Check.refused("torn", ArithmeticException.class, () -> torn.token(Bench.tokenOf(Bench.CREDIT, 9, 9)));
        isAsAtFirst(torn);
        MeterBox spread = new MeterBox();
        spread.plan(0, 0, 1, 1);
        spread.plan(0, 1, 3, 2);
        Bench.draw(spread, 6);
        spread.power(false);
        isAsAtFirst(spread);
    }

    private static void isAsAtFirst(MeterBox x) {
        Check.due("none is good", x.power(true), 0);
        double[] values = {0.0, 0.0, 0.0, 5.0, 0.0};
        for (int i = 0; i < 5; i++) {
            Check.due("read(" + i + ")", x.read(i), values[i]);
        }
        int[] counts = {0, 1, 0, 0};
        for (int i = 0; i < 4; i++) {
            Check.due("count(" + (6 + i) + ")", x.count(6 + i), counts[i]);
        }
    }

    private static void loadsAll() {
        MeterBox x = new MeterBox();
        x.plan(0, 0, 1, 1);
        x.plan(0, 1, 3, 2);
        x.token(Bench.tokenOf(Bench.CREDIT, 16383, 12));
        x.use(230.0, 1.0, 1);
        Bench.draw(x, 5);
        x.save();
        x.use(300.0, 100.0, 1);
        x.plan(0, 1, 3, 1);
        x.use(300.0, 100.0, 1);
        x.plan(0, 0, 1, 0);
        x.plan(0, 1, 3, 0);
        x.use(300.0, 100.0, 1);
        x.power(false);
        x.plan(0, 1, 3, 2);
        Check.due("two are good", x.power(true), 2);
        Check.due("register 0", x.read(0), 3 / 1000.0);
        Check.due("register 1", x.read(1), 0.5);
        Check.due("register 2", x.read(2), 0.75);
        Check.due("credit", x.read(3), 3866 / 1000.0);
        Check.due("highest", x.read(4), 0.0);
        Check.due("TIME", x.count(6), 6);
        Check.due("RELAY", x.count(7), 1);
        Check.due("EMERGENCY", x.count(8), 0);
        Check.due("LAST", x.count(9), 16383);
        Check.due("TARIFF", x.count(10), 2);
    }

    private static void loadsBelowNought() {
        MeterBox x = Bench.opened();
        x.save();
        x.power(false);
        x.power(true);
        Check.due("credit", x.read(3), -0.25);
        Check.due("TIME", x.count(6), 381);
        Check.due("open", x.count(7), 0);
        Check.due("EMERGENCY", x.count(8), 0);
        x.emergency();
        x.save();
        x.power(false);
        x.power(true);
        Check.due("closed", x.count(7), 1);
        Check.due("EMERGENCY", x.count(8), 1);
        Bench.draw(x, 8);
        x.save();
        x.power(false);
        x.power(true);
        Check.due("credit", x.read(3), -2.25);
        Check.due("open", x.count(7), 0);
        Check.due("EMERGENCY", x.count(8), 1);
        Check.due("TIME", x.count(6), 389);
    }

    private static void loadsTheNewest() {
        MeterBox x = new MeterBox();
        for (int i = 0; i < 14; i++) {
            Bench.idle(x, 1);
            x.save();
        }
        Bench.idle(x, 10);
        x.power(false);
        Check.due("eleven are good", x.power(true), 11);
        Check.due("TIME of slot 1, not of slot 11", x.count(6), 14);
        Check.due("goes on behind slot 1", x.save(), 15);
        Check.due("goes on behind slot 1", x.flash(2, 0), 15);
    }

    private static void endsEventsAndRequest() {
        MeterBox x = new MeterBox();
        x.use(300.0, 0.0, 1);
        x.request(126);
        x.request(125);
        x.power(false);
        Check.due("no events", x.count(1), 0);
        x.power(true);
        Check.due("outside of a request", Bench.send(x, 0, 5, 234, 88, 126), 0);
        Check.due("within one", Bench.send(x, 0, 5, 234, 88, 126), 13);
        Check.due("an event", x.use(300.0, 0.0, 1), 1);
        Check.due("its number", Bench.event(x, 0), 20000);
    }

    private static void keepsPricesPlansAndReply() {
        MeterBox x = new MeterBox();
        x.token(Bench.tokenOf(Bench.PRICES, 1, 600));
        x.plan(0, 2, 0, 2);
        Bench.ask(x, 0, 3);
        x.power(false);
        Check.due("price", x.price(0), 0.2);
        Check.due("reply", x.reply(1), 128);
        x.power(true);
        Check.due("price", x.price(0), 0.2);
        Check.due("tariff", x.count(10), 2);
        Check.due("reply", x.reply(8), 19);
        Check.refused("its end", IndexOutOfBoundsException.class, () -> x.reply(13));
    }
}
