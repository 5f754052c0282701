/** Promise 15. */
public final class OrderTest {
    public static void main(String[] args) {
        countsMinutesThatBeginClosed();
        leavesNoSlotWithoutAGoodOne();
        worksOutWordZeroBeforeErasing();
        notesNoEventForACut();
        keepsEventsWhenCut();
        answersRepliesWhileOff();
        Check.end();
    }

    private static void countsMinutesThatBeginClosed() {
        MeterBox x = new MeterBox();
        Bench.idle(x, 360);
        Check.due("the minute that opens it counts", Bench.draw(x, 50), 21);
    }

    private static void leavesNoSlotWithoutAGoodOne() {
        MeterBox x = new MeterBox();
        for (int i = 1; i <= 4; i++) {
            x.cut(5);
            Check.refused("torn", ArithmeticException.class, x::save);
            Check.due("none is good", x.power(true), 0);
            Check.due("sector 0 each time", x.count(2), i);
            Check.due("not behind the torn one", x.flash(1, 0), -1);
        }
        Check.due("then sector 1", x.save(), 1);
        Check.due("then sector 1", x.flash(3, 0), 1);
    }

    private static void worksOutWordZeroBeforeErasing() {
        MeterBox x = new MeterBox();
        for (int i = 0; i < 12; i++) {
            x.cut(0);
            Check.refused("torn", ArithmeticException.class, x::save);
            x.power(true);
        }
        for (int i = 1; i <= 12; i++) {
            Check.due("word 0", x.save(), i);
        }
        Check.refused("worn out", UnsupportedOperationException.class, x::save);
    }

    private static void notesNoEventForACut() {
        MeterBox x = new MeterBox();
        Bench.idle(x, 1439);
        x.cut(0);
        Check.refused("cut", ArithmeticException.class, () -> Bench.draw(x, 10));
        Check.due("no event", x.count(1), 0);
        x.power(true);
        Check.due("all as at first", x.count(6), 0);
        MeterBox y = Bench.wornOut();
        y.cut(0);
        Bench.idle(y, 1440);
        Check.due("worn out comes before the cut", y.count(1), 1);
        Check.due("the cut is still set", y.cut(1), 0);
    }

    private static void keepsEventsWhenCut() {
        MeterBox x = new MeterBox();
        x.use(300.0, 0.0, 1);
        x.request(126);
        x.request(0);
        x.cut(0);
        Check.refused("cut", ArithmeticException.class, x::save);
        Check.due("events stay", x.count(1), 1);
        x.power(true);
        Check.due("till power comes", x.count(1), 0);
        Check.due("the request too", Bench.send(x, 5, 234, 88, 126), 0);
        Check.due("it was begun anew", Bench.send(x, 0, 5, 234, 88, 126), 13);
    }

    private static void answersRepliesWhileOff() {
        MeterBox x = new MeterBox();
        Bench.ask(x, 0, 3);
        x.cut(0);
        Check.refused("cut", ArithmeticException.class, x::save);
        Check.due("OFF by a cut", x.reply(8), 19);
        Check.refused("its end", IndexOutOfBoundsException.class, () -> x.reply(13));
        x.power(true);
        x.power(false);
        Check.due("OFF by power", x.reply(8), 19);
    }
}
