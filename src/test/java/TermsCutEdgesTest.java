/** The edges of Terms: WORDS that are written one after the other, and a CUT between them. */
public final class TermsCutEdgesTest {
    private static final String TERMS = "Terms";
    private static final String CUT = "if a CUT is set, n 0 .. 5: after n WORDS power fails: the METER is OFF, the CUT is not set any more, ArithmeticException.";

    public static void main(String[] args) {
        writesOneAfterTheOther();
        writesOverATornSlot();
        changesNothingElse();
        isOff();
        isNotSetAnyMore();
        tearsEverySaving();
        loadsTheSlotBefore();
        Check.end();
    }

    /** SLOT 0 is GOOD, TIME 6, CREDIT 3.5, REGISTERS 0.25, 0.5, 0.75, LAST 9. */
    private static MeterBox used() {
        MeterBox x = new MeterBox();
        x.plan(0, 0, 1, 1);
        x.plan(0, 1, 3, 2);
        x.token(Bench.tokenOf(Bench.PRICES, 9, 3000));
        Bench.draw(x, 6);
        return x;
    }

    private static long[] words() {
        long[] w = {2, 24 * 1000000000000L + 3500, 250, 500, 9 * 1000000000L + 750, 0};
        w[5] = 7 * w[0] + 11 * w[1] + 13 * w[2] + 17 * w[3] + 19 * w[4] + 1;
        return w;
    }

    private static void writesOneAfterTheOther() {
        Check.sentence(TERMS, CUT);
        for (int n = 0; n <= 5; n++) {
            MeterBox x = used();
            x.cut(n);
            Check.refused("CUT " + n, ArithmeticException.class, x::save);
            for (int i = 0; i < 6; i++) {
                Check.due("CUT " + n + ": word " + i, x.flash(1, i), i < n ? words()[i] : -1);
            }
            Check.due("CUT " + n + ": GOOD SLOTS", x.power(true), 1);
        }
        MeterBox y = used();
        Check.due("no CUT", y.save(), 2);
        for (int i = 0; i < 6; i++) {
            Check.due("no CUT: word " + i, y.flash(1, i), words()[i]);
        }
        Check.due("ON", y.count(0), 1);
    }

    private static void writesOverATornSlot() {
        Check.sentence(TERMS, CUT);
        for (int first = 0; first <= 5; first++) {
            for (int n = 0; n <= 5; n++) {
                MeterBox x = used();
                x.cut(first);
                Check.refused("CUT " + first, ArithmeticException.class, x::save);
                x.power(true);
                x.cut(n);
                Check.refused("CUT " + n, ArithmeticException.class, x::save);
                long[] fresh = {2, 5000, 0, 0, 9 * 1000000000L};
                for (int i = 0; i < 5; i++) {
                    long older = i < first ? words()[i] : -1;
                    Check.due("CUT " + first + ", then " + n + ": word " + i, x.flash(1, i), i < n ? fresh[i] : older);
                }
                Check.due("word 5", x.flash(1, 5), -1);
            }
        }
    }

    private static void changesNothingElse() {
        Check.sentence(TERMS, CUT);
        Look.changes("a save that is cut", Rich::closed,
            x -> Check.refused("cut", ArithmeticException.class, x::save),
            offRows("CUT = -1", "flash(5, 0) = 6", "flash(5, 1) = 488000000004312", "flash(5, 2) = 250"));
    }

    /** What is seen of a meter with two EVENTS when it is OFF, and these rows. */
    private static String[] offRows(String... rows) {
        java.util.List<String> all = new java.util.ArrayList<>(java.util.List.of(rows));
        all.add("count(0) = 0");
        for (int i = 6; i <= 10; i++) {
            all.add("count(" + i + ") = IllegalStateException");
        }
        for (int i = 0; i <= 4; i++) {
            all.add("read(" + i + ") = IllegalStateException");
        }
        for (int i = 0; i < 12; i++) {
            all.add("EVENT " + i + " = IllegalStateException");
        }
        String nine = java.util.Collections.nCopies(9, "IllegalStateException").toString();
        all.add("line = " + nine);
        all.add("escaped line = " + nine);
        return all.toArray(new String[0]);
    }

    private static void isOff() {
        Check.sentence(TERMS, "after n WORDS power fails: the METER is OFF");
        for (int n = 0; n <= 5; n++) {
            MeterBox x = used();
            x.cut(n);
            Check.refused("CUT " + n, ArithmeticException.class, x::save);
            Check.due("count(0)", x.count(0), 0);
            Check.refused("save", IllegalStateException.class, x::save);
            Check.refused("OFF twice", IllegalStateException.class, () -> x.power(false));
            Check.due("ON", x.power(true), 1);
            Check.due("count(0)", x.count(0), 1);
        }
    }

    private static void isNotSetAnyMore() {
        Check.sentence(TERMS, "the CUT is not set any more");
        for (int n = 0; n <= 5; n++) {
            MeterBox x = used();
            x.cut(n);
            Check.refused("CUT " + n, ArithmeticException.class, x::save);
            x.power(true);
            Check.due("the next one is whole", x.save(), 2);
            Check.due("none is set", x.cut(n), -1);
            Check.refused("set anew", ArithmeticException.class, x::save);
        }
    }

    private static void tearsEverySaving() {
        Check.sentence(TERMS, CUT);
        MeterBox x = used();
        x.cut(2);
        Check.refused("token", ArithmeticException.class, () -> x.token(Bench.tokenOf(Bench.CREDIT, 10, 100)));
        Check.due("a token's: word 1", x.flash(1, 1), 24 * 1000000000000L + 4500);
        Check.due("a token's: word 2", x.flash(1, 2), -1);
        MeterBox y = used();
        Bench.idle(y, 1433);
        y.cut(3);
        Check.refused("use", ArithmeticException.class, () -> y.use(230.0, 0.0, 1));
        Check.due("a MINUTE's: word 1", y.flash(1, 1), 5760 * 1000000000000L + 3500);
        Check.due("a MINUTE's: word 2", y.flash(1, 2), 250);
        Check.due("a MINUTE's: word 3", y.flash(1, 3), -1);
    }

    private static void loadsTheSlotBefore() {
        Check.sentence(TERMS, "power fails");
        MeterBox x = used();
        x.cut(5);
        Check.refused("CUT 5", ArithmeticException.class, x::save);
        x.power(true);
        Check.due("CREDIT", x.read(3), 5.0);
        Check.due("TIME", x.count(6), 0);
        Check.due("LAST", x.count(9), 9);
        Check.due("REGISTER 2", x.read(2), 0.0);
    }
}
