/** Promise 7, and what a cut does. */
public final class CutTest {
    public static void main(String[] args) {
        answersWhatWasSet();
        refusesWrongNumbers();
        staysOverPower();
        tearsAfterSoManyWords();
        leavesOlderWordsBehind();
        erasesAllTheSame();
        Check.end();
    }

    private static void answersWhatWasSet() {
        MeterBox x = new MeterBox();
        Check.due("none", x.cut(0), -1);
        for (int i = 1; i <= 5; i++) {
            Check.due("before", x.cut(i), i - 1);
        }
        Check.due("the last", x.cut(0), 5);
        Check.refused("torn", ArithmeticException.class, x::save);
        Check.due("not set any more", x.cut(4), -1);
    }

    private static void refusesWrongNumbers() {
        MeterBox x = new MeterBox();
        x.cut(3);
        for (int words : new int[] {-1, 6, Integer.MIN_VALUE, Integer.MAX_VALUE}) {
            Check.refused("cut " + words, IllegalArgumentException.class, () -> x.cut(words));
        }
        Check.due("as before", x.cut(0), 3);
    }

    private static void staysOverPower() {
        MeterBox x = new MeterBox();
        x.cut(3);
        x.power(false);
        Check.due("while OFF", x.cut(1), 3);
        x.power(true);
        Check.due("ON again", x.cut(2), 1);
    }

    private static void tearsAfterSoManyWords() {
        for (int n = 0; n <= 5; n++) {
            MeterBox x = new MeterBox();
            x.save();
            x.cut(n);
            Check.refused("torn", ArithmeticException.class, x::save);
            Check.due("OFF", x.count(0), 0);
            for (int word = 0; word < 6; word++) {
                boolean written = x.flash(1, word) != -1;
                Check.due("word " + word + " of " + n, written ? 1 : 0, word < n ? 1 : 0);
            }
            Check.due("one is good", x.power(true), 1);
            Check.due("the next saving is whole", x.save(), 2);
            Check.due("in the torn place", x.flash(1, 0), 2);
            Check.due("nothing behind", x.flash(2, 0), -1);
            x.power(false);
            Check.due("both are good", x.power(true), 2);
        }
    }

    private static void leavesOlderWordsBehind() {
        MeterBox x = new MeterBox();
        x.save();
        Bench.draw(x, 4);
        x.cut(4);
        Check.refused("torn", ArithmeticException.class, x::save);
        x.power(true);
        x.cut(1);
        Check.refused("torn", ArithmeticException.class, x::save);
        Check.due("word 2 as it was", x.flash(1, 2), 1000);
        Check.due("word 4 as it was", x.flash(1, 4), -1);
    }

    private static void erasesAllTheSame() {
        MeterBox x = new MeterBox();
        for (int i = 0; i < 12; i++) {
            x.save();
        }
        x.cut(0);
        Check.refused("torn", ArithmeticException.class, x::save);
        for (int slot = 0; slot < 3; slot++) {
            Check.due("erased", x.flash(slot, 0), -1);
        }
        Check.due("wear", x.count(2), 2);
        Check.due("nine are good", x.power(true), 9);
        Check.due("word 0", x.save(), 13);
        Check.due("erased again", x.count(2), 3);
    }
}
