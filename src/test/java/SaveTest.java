/** Promise 6, and how flash is written. */
public final class SaveTest {
    private static final long T = 1000000000000L;

    public static void main(String[] args) {
        writesTheWords();
        writesMarks();
        cutsToALong();
        goesRoundTheSectors();
        wearsOut();
        passesOverWornOutSectors();
        erasesTheOnlySectorLeft();
        Check.refused("OFF", IllegalStateException.class, SaveTest::saveWhileOff);
        Check.end();
    }

    private static void saveWhileOff() {
        MeterBox x = new MeterBox();
        x.power(false);
        x.save();
    }

    private static void writesTheWords() {
        MeterBox x = new MeterBox();
        x.plan(0, 0, 1, 1);
        x.plan(0, 1, 3, 2);
        x.token(Bench.tokenOf(Bench.CREDIT, 9, 12));
        Bench.draw(x, 6);
        Check.due("word 0 is answered", x.save(), 2);
        long[] due = {2, 6 * 4 * T + 3620, 250, 500, 9 * 1000000000L + 750, 0};
        due[5] = 7 * due[0] + 11 * due[1] + 13 * due[2] + 17 * due[3] + 19 * due[4] + 1;
        for (int i = 0; i < 6; i++) {
            Check.due("word " + i, x.flash(1, i), due[i]);
            Check.due("nothing behind", x.flash(2, i), -1);
        }
        Check.due("the first as written", x.flash(0, 4), 9000000000L);
    }

    private static void writesMarks() {
        MeterBox x = Bench.opened();
        x.save();
        Check.due("open", x.flash(0, 1), (381 * 4 + 1) * T - 250);
        x.emergency();
        x.save();
        Check.due("emergency", x.flash(1, 1), (381 * 4 + 2) * T - 250);
        Bench.draw(x, 8);
        x.save();
        Check.due("both", x.flash(2, 1), (389 * 4 + 3) * T - 2250);
    }

    private static void cutsToALong() {
        MeterBox x = new MeterBox();
        x.use(230.0, 1.0, 2);
        x.save();
        Check.due("credit 4.9923..", x.flash(0, 1), 2 * 4 * T + 4992);
        Check.due("register 0.0076..", x.flash(0, 2), 7);
        MeterBox y = new MeterBox();
        Bench.draw(y, 20);
        y.use(230.0, 0.4, 1);
        y.save();
        Check.due("credit -0.0015..", y.flash(0, 1), 21 * 4 * T - 1);
    }

    private static void goesRoundTheSectors() {
        MeterBox x = new MeterBox();
        for (int i = 0; i < 30; i++) {
            Check.due("word 0", x.save(), i + 1);
            Check.due("place", x.flash(i % 12, 0), i + 1);
            for (int s = 0; s < 4; s++) {
                Check.due("wear " + s, x.count(2 + s), (i / 3 - s + 4) / 4);
            }
            for (int slot = i % 12 + 1; slot % 3 != 0; slot++) {
                Check.due("erased", x.flash(slot, 0), -1);
            }
        }
    }

    private static void wearsOut() {
        MeterBox x = Bench.wornOut();
        x.cut(2);
        Check.refused("worn out", UnsupportedOperationException.class, x::save);
        Check.due("still ON", x.count(0), 1);
        Check.due("the cut stays", x.cut(2), 2);
        Check.due("the latest stays", x.flash(11, 0), 48);
        Check.due("the oldest stays", x.flash(0, 0), 37);
        for (int s = 0; s < 4; s++) {
            Check.due("wear " + s, x.count(2 + s), 4);
        }
        Check.due("no event", x.count(1), 0);
    }

    private static void tear(MeterBox x, int words) {
        x.cut(words);
        Check.refused("torn", ArithmeticException.class, x::save);
        x.power(true);
    }

    private static void passesOverWornOutSectors() {
        MeterBox x = new MeterBox();
        for (int i = 0; i < 4; i++) {
            tear(x, 0);
        }
        Check.due("sector 0 is worn out", x.count(2), 4);
        Check.due("word 0", x.save(), 1);
        Check.due("in sector 1", x.flash(3, 0), 1);
        Check.due("sector 0 no more", x.count(2), 4);
        for (int i = 2; i <= 9; i++) {
            x.save();
        }
        Check.due("behind sector 3", x.save(), 10);
        Check.due("sector 1 again", x.flash(3, 0), 10);
        Check.due("sector 1 was erased", x.flash(4, 0), -1);
        Check.due("sector 0 is empty", x.flash(0, 0), -1);
    }

    private static void erasesTheOnlySectorLeft() {
        MeterBox x = new MeterBox();
        for (int i = 0; i < 12; i++) {
            tear(x, 1);
        }
        Check.due("sector 2 is worn out", x.count(4), 4);
        for (int i = 1; i <= 3; i++) {
            Check.due("word 0", x.save(), i);
        }
        Check.due("erases the newest, counts on", x.save(), 4);
        Check.due("sector 3 again", x.flash(9, 0), 4);
        Check.due("erased", x.flash(11, 0), -1);
        Check.due("wear", x.count(5), 2);
        x.power(false);
        Check.due("one is good", x.power(true), 1);
    }
}
