/** The edges of promise 7: cut. */
public final class Promise07EdgesTest {
    private static final String PROMISE = "Promise 7";

    public static void main(String[] args) {
        takesWords();
        isSet();
        goesOnOrOff();
        answersWhatWasSet();
        answersNone();
        Check.end();
    }

    private static void takesWords() {
        Check.sentence(PROMISE, "words 0 .. 5: a CUT is set.");
        Look.outOfRange("words", 0, 5, MeterBox::cut);
        Look.withinRange("words", 0, 5, n -> new MeterBox().cut(n));
        MeterBox x = new MeterBox();
        for (int words : new int[] {-1, 6}) {
            Check.refused("words " + words, IllegalArgumentException.class, () -> x.cut(words));
        }
        Check.due("none is set by them", x.save(), 1);
    }

    private static void isSet() {
        Check.sentence(PROMISE, "words 0 .. 5: a CUT is set.");
        for (int words = 0; words <= 5; words++) {
            int n = words;
            MeterBox x = new MeterBox();
            x.save();
            x.cut(n);
            Check.refused("the next SAVING", ArithmeticException.class, x::save);
            for (int i = 0; i < 6; i++) {
                Check.due("word " + i + " of " + n, x.flash(1, i) != -1, i < n);
            }
            Look.changes("nothing else", Rich::uncut, y -> y.cut(n), "CUT = " + n);
        }
        MeterBox z = new MeterBox();
        z.save();
        z.cut(5);
        z.cut(1);
        Check.refused("the latest counts", ArithmeticException.class, z::save);
        Check.due("word 0", z.flash(1, 0), 2);
        Check.due("word 1", z.flash(1, 1), -1);
    }

    private static void goesOnOrOff() {
        Check.sentence(PROMISE, "(ON or OFF.)");
        MeterBox x = new MeterBox();
        x.power(false);
        Check.due("OFF by power", x.cut(2), -1);
        Check.due("it is set", x.cut(3), 2);
        x.power(true);
        Check.refused("it comes when ON", ArithmeticException.class, x::save);
        Check.due("OFF by the CUT", x.cut(4), -1);
        x.power(true);
        Check.due("ON", x.cut(5), 4);
        x.power(false);
        x.power(true);
        Check.due("over power", x.cut(0), 5);
    }

    private static void answersWhatWasSet() {
        Check.sentence(PROMISE, "Answers what was set, -1 for none.");
        for (int before = 0; before <= 5; before++) {
            for (int words = 0; words <= 5; words++) {
                MeterBox x = new MeterBox();
                x.cut(before);
                Check.due("before " + words, x.cut(words), before);
                Check.due("after", x.cut(0), words);
            }
        }
    }

    private static void answersNone() {
        Check.sentence(PROMISE, "Answers what was set, -1 for none.");
        MeterBox x = new MeterBox();
        Check.due("at first", x.cut(5), -1);
        Check.refused("used up by save", ArithmeticException.class, x::save);
        Check.due("none", x.cut(5), -1);
        x.power(true);
        Check.refused("used up by token", ArithmeticException.class,
            () -> x.token(Bench.tokenOf(Bench.CREDIT, 1, 1)));
        Check.due("none", x.cut(5), -1);
        x.power(true);
        Check.refused("used up by use", ArithmeticException.class, () -> Bench.idle(x, 1440));
        Check.due("none", x.cut(0), -1);
    }
}
