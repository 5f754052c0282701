/** The edges of promise 15: order and limits. */
public final class Promise15EdgesTest {
    private static final String PROMISE = "Promise 15";

    public static void main(String[] args) {
        countsMinutesThatBeginClosed();
        leavesNoSlot();
        worksOutWordNoughtFirst();
        notesOnlyWornOut();
        notesNoCut();
        endsEventsAndRequestByPowerOn();
        leavesBothWhenCut();
        repliesWhileOff();
        Check.end();
    }

    private static void countsMinutesThatBeginClosed() {
        Check.sentence(PROMISE, "use counts the MINUTES at whose beginning the RELAY was closed.");
        MeterBox x = new MeterBox();
        Bench.idle(x, 360);
        Check.due("none opens it", Bench.draw(x, 20), 20);
        Check.due("the first opens it, and counts", Bench.draw(x, 1), 1);
        Check.due("open", x.count(7), 0);
        Check.due("the next does not", Bench.draw(x, 1), 0);
        MeterBox y = new MeterBox();
        Bench.draw(y, 21);
        Check.due("below 0.0 by night; that of 359 opens it", y.use(0.0, 0.0, 300), 300);
        Check.due("TIME 321 .. 359", y.use(0.0, 0.0, 300), 39);
        MeterBox z = Bench.opened();
        z.emergency();
        Check.due("closed again, then opened", Bench.draw(z, 300), 8);
    }

    private static void leavesNoSlot() {
        Check.sentence(PROMISE, "A LOADING that finds no GOOD SLOT leaves no SLOT: the next PLACE is then the one behind SECTOR 3.");
        MeterBox x = new MeterBox();
        for (int i = 1; i <= 4; i++) {
            x.cut(5);
            Check.refused("torn", ArithmeticException.class, x::save);
            Check.due("no GOOD SLOT", x.power(true), 0);
            Check.due("SECTOR 0 again", x.count(2), i);
            Check.due("its first SLOT", x.flash(0, 0), 1);
            Check.due("not the one behind", x.flash(1, 0), -1);
        }
        Check.due("SECTOR 1, as 0 is WORN OUT", x.save(), 1);
        Check.due("its first SLOT", x.flash(3, 0), 1);
        MeterBox y = new MeterBox();
        y.cut(1);
        Check.refused("torn", ArithmeticException.class, y::save);
        y.power(true);
        y.save();
        Check.due("SLOT 0", y.flash(0, 5) != -1, true);
        Check.due("ERASED twice", y.count(2), 2);
    }

    private static void worksOutWordNoughtFirst() {
        Check.sentence(PROMISE, "Word 0 is worked out before a SECTOR is ERASED.");
        MeterBox x = onlySectorThree();
        for (int i = 1; i <= 12; i++) {
            Check.due("SAVING " + i + " in SECTOR 3", x.save(), i);
            Check.due("PLACE", x.flash(9 + (i - 1) % 3, 0), i);
        }
        Check.refused("WORN OUT", UnsupportedOperationException.class, x::save);
        MeterBox y = onlySectorThree();
        for (int i = 1; i <= 3; i++) {
            y.save();
        }
        y.cut(1);
        Check.refused("torn", ArithmeticException.class, y::save);
        Check.due("worked out from the ERASED ones", y.flash(9, 0), 4);
        Check.due("which are no more", y.power(true), 0);
        Check.due("so it begins anew", y.save(), 1);
    }

    /** The others are WORN OUT, so that the SECTOR with the only GOOD SLOTS must be ERASED. */
    private static MeterBox onlySectorThree() {
        MeterBox x = new MeterBox();
        for (int i = 0; i < 12; i++) {
            x.cut(0);
            Check.refused("torn", ArithmeticException.class, x::save);
            x.power(true);
        }
        return x;
    }

    private static void notesOnlyWornOut() {
        Check.sentence(PROMISE, "At the beginning of a day EVENT 3 comes only if SAVING throws UnsupportedOperationException");
        MeterBox x = Bench.wornOut();
        Bench.idle(x, 1439);
        Check.due("before", x.count(1), 0);
        Bench.idle(x, 1);
        Check.due("EVENT 3", Bench.event(x, 0), 31440);
        MeterBox y = new MeterBox();
        Bench.idle(y, 1440);
        Check.due("SAVED: none", y.count(1), 0);
        MeterBox z = Bench.wornOut();
        z.cut(0);
        Check.due("WORN OUT, with a CUT set", z.use(0.0, 0.0, 300), 300);
        Bench.idle(z, 1140);
        Check.due("EVENT 3", Bench.event(z, 0), 31440);
        Check.due("ON", z.count(0), 1);
        Check.due("the CUT is still set", z.cut(0), 0);
    }

    private static void notesNoCut() {
        Check.sentence(PROMISE, "one that is cut makes no EVENT, and the MINUTES behind are not done");
        for (int words = 0; words <= 5; words++) {
            MeterBox x = new MeterBox();
            Bench.idle(x, 1438);
            x.cut(words);
            Check.refused("CUT " + words, ArithmeticException.class, () -> Bench.draw(x, 300));
            Check.due("no EVENT", x.count(1), 0);
            Check.due("OFF", x.count(0), 0);
            Check.due("WEAR", x.count(2), 1);
            if (words >= 3) {
                Check.due("two MINUTES were done", x.flash(0, 2), 500);
            }
        }
        MeterBox y = new MeterBox();
        Bench.idle(y, 1438);
        y.save();
        y.cut(0);
        Check.refused("cut", ArithmeticException.class, () -> y.use(400.0, 0.0, 300));
        Check.due("EVENT 2 alone", y.count(1), 1);
        y.power(true);
        Check.due("TIME as SAVED before", y.count(6), 1438);
        Bench.idle(y, 2);
        Check.due("the day begins again", y.flash(1, 0), 2);
    }

    private static void endsEventsAndRequestByPowerOn() {
        Check.sentence(PROMISE, "EVENTS are none and a REQUEST is begun no more by power(true), too");
        int[][] begun = {{126}, {126, 0}, {126, 0, 5, 234, 88}, {126, 125}};
        for (int[] bytes : begun) {
            MeterBox x = new MeterBox();
            x.use(300.0, 0.0, 1);
            Bench.send(x, bytes);
            x.cut(0);
            Check.refused("cut", ArithmeticException.class, x::save);
            x.power(true);
            Check.due("EVENTS", x.count(1), 0);
            Check.due("passed over", Bench.send(x, 0, 5, 234, 88), 0);
            Check.due("the flag begins one", x.request(126), 0);
            Check.due("it is whole", Bench.send(x, 0, 5, 234, 88, 126), 13);
            Check.refused("EVENT 0", UnsupportedOperationException.class, () -> Bench.event(x, 0));
        }
    }

    private static void leavesBothWhenCut() {
        Check.sentence(PROMISE, "a CUT that turns the METER OFF leaves both as they are");
        for (int events : new int[] {0, 1, 12}) {
            MeterBox x = new MeterBox();
            for (int i = 0; i < events; i++) {
                x.use(300.0, 0.0, 1);
            }
            x.cut(3);
            Check.refused("save", ArithmeticException.class, x::save);
            Check.due("EVENTS", x.count(1), events);
        }
        MeterBox y = new MeterBox();
        y.use(300.0, 0.0, 1);
        y.cut(3);
        Check.refused("token", ArithmeticException.class, () -> y.token(Bench.tokenOf(Bench.CREDIT, 1, 1)));
        Check.due("EVENTS", y.count(1), 1);
        MeterBox z = new MeterBox();
        z.use(300.0, 0.0, 1);
        z.cut(3);
        Check.refused("use", ArithmeticException.class, () -> Bench.idle(z, 1439));
        Check.due("EVENTS", z.count(1), 1);
    }

    private static void repliesWhileOff() {
        Check.sentence(PROMISE, "reply answers when the METER is OFF, too.");
        MeterBox on = Rich.closed();
        for (MeterBox off : new MeterBox[] {Rich.off(), Rich.torn()}) {
            for (int i = 0; i < 13; i++) {
                Check.due("reply(" + i + ")", off.reply(i), on.reply(i));
            }
            Check.refused("reply(-1)", IndexOutOfBoundsException.class, () -> off.reply(-1));
            Check.refused("reply(24)", IndexOutOfBoundsException.class, () -> off.reply(24));
            off.power(true);
            Check.due("ON again", off.reply(1), 129);
        }
        MeterBox none = new MeterBox();
        none.power(false);
        Check.refused("no REPLY", IndexOutOfBoundsException.class, () -> none.reply(0));
    }
}
