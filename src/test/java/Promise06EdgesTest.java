/** The edges of promise 6: save. */
public final class Promise06EdgesTest {
    private static final String PROMISE = "Promise 6";

    public static void main(String[] args) {
        isSaved();
        answersWordNought();
        refusesWhileOff();
        refusesWhenWornOut();
        isCut();
        isWornOutBeforeItIsCut();
        Check.end();
    }

    private static void isSaved() {
        Check.sentence(PROMISE, "It is SAVED.");
        Look.changes("the first", MeterBox::new, MeterBox::save, "count(2) = 1", "flash(0, 0) = 1",
            "flash(0, 1) = 5000", "flash(0, 2) = 0", "flash(0, 3) = 0", "flash(0, 4) = 0", "flash(0, 5) = 55008");
        Look.changes("the sixth", Rich::uncut, MeterBox::save, Rich.savedRows(7));
    }

    private static void answersWordNought() {
        Check.sentence(PROMISE, "Answers word 0.");
        MeterBox x = new MeterBox();
        for (int i = 1; i <= 48; i++) {
            Check.due("SAVING " + i, x.save(), i);
            Check.due("word 0", x.flash((i - 1) % 12, 0), i);
        }
        Check.refused("the 49th", UnsupportedOperationException.class, x::save);
        MeterBox y = new MeterBox();
        y.token(Bench.tokenOf(Bench.CREDIT, 1, 1));
        Bench.idle(y, 1440);
        Check.due("behind a token's and a day's", y.save(), 3);
    }

    private static void refusesWhileOff() {
        Check.sentence("Terms", "IllegalStateException: the METER is OFF (where it must be ON)");
        Look.refused("OFF by power, a CUT is set", IllegalStateException.class, Rich::off, MeterBox::save);
        Look.refused("OFF by a CUT", IllegalStateException.class, Rich::torn, MeterBox::save);
        Look.refused("OFF, all WORN OUT", IllegalStateException.class, () -> {
            MeterBox x = Rich.worn();
            x.power(false);
            return x;
        }, MeterBox::save);
    }

    private static void refusesWhenWornOut() {
        Check.sentence(PROMISE, "It is SAVED.");
        Look.refused("all WORN OUT", UnsupportedOperationException.class, Bench::wornOut, MeterBox::save);
        MeterBox x = Bench.wornOut();
        for (int i = 0; i < 3; i++) {
            Check.refused("again", UnsupportedOperationException.class, x::save);
        }
        Check.due("no EVENT", x.count(1), 0);
        x.power(false);
        Check.due("GOOD SLOTS", x.power(true), 12);
    }

    private static void isCut() {
        Check.sentence(PROMISE, "It is SAVED.");
        for (int words = 0; words <= 5; words++) {
            MeterBox x = new MeterBox();
            x.use(300.0, 0.0, 1);
            x.cut(words);
            Check.refused("CUT " + words, ArithmeticException.class, x::save);
            Check.due("OFF", x.count(0), 0);
            Check.due("the SECTOR was ERASED", x.count(2), 1);
            Check.due("no EVENT but EVENT 2", x.count(1), 1);
            Check.due("GOOD SLOTS", x.power(true), 0);
        }
    }

    private static void isWornOutBeforeItIsCut() {
        Check.sentence("Terms", "all four WORN OUT: UnsupportedOperationException");
        Look.refused("a CUT is set, and stays so", UnsupportedOperationException.class, Rich::worn, MeterBox::save);
        Check.due("it is set", Rich.worn().cut(0), 3);
    }
}
