/** The edges of Terms: FLASH, GOOD SLOTS, and what is written TO SAVE. */
public final class TermsFlashEdgesTest {
    private static final String TERMS = "Terms";
    private static final long TIME_UNIT = 1000000000000L;
    private static final long LAST_UNIT = 1000000000L;

    public static void main(String[] args) {
        isEmptyAtFirst();
        hasNoWearAtFirst();
        isGoodWithItsSum();
        isNotGoodEmpty();
        countsFromOne();
        countsOnFromTheGreatestGoodOne();
        cutsToALong();
        addsLast();
        addsTimeRelayAndEmergency();
        writesTheSum();
        Check.end();
    }

    private static MeterBox saved(int times) {
        MeterBox x = new MeterBox();
        for (int i = 0; i < times; i++) {
            x.save();
        }
        return x;
    }

    private static void tear(MeterBox x, int words) {
        x.cut(words);
        Check.refused("torn", ArithmeticException.class, x::save);
    }

    private static void isEmptyAtFirst() {
        Check.sentence(TERMS, "SECTORS 0 .. 3 of 3 SLOTS of 6 WORDS, longs, all -1 at first");
        MeterBox x = new MeterBox();
        for (int slot = 0; slot < 12; slot++) {
            for (int word = 0; word < 6; word++) {
                Check.due("word " + word + " of " + slot, x.flash(slot, word), -1);
            }
        }
        MeterBox y = saved(12);
        for (int slot = 0; slot < 12; slot++) {
            Check.due("all twelve are used", y.flash(slot, 0), slot + 1);
        }
        y.save();
        Check.due("SECTOR 0 has three SLOTS: the first is written", y.flash(0, 0), 13);
        Check.due("the third is ERASED", y.flash(2, 0), -1);
        Check.due("SECTOR 1 is not", y.flash(3, 0), 4);
    }

    private static void hasNoWearAtFirst() {
        Check.sentence(TERMS, "each SECTOR has WEAR, 0 at first");
        for (int s = 0; s < 4; s++) {
            Check.due("WEAR of " + s, new MeterBox().count(2 + s), 0);
            Check.due("asked by REQUEST", Bench.ask(new MeterBox(), 1, s), 0);
        }
    }

    private static void isGoodWithItsSum() {
        Check.sentence(TERMS, "A SLOT is GOOD if word 5 is its SUM");
        for (int good = 0; good <= 12; good++) {
            MeterBox x = saved(good);
            x.power(false);
            Check.due("GOOD SLOTS", x.power(true), good);
        }
        for (int words = 0; words <= 5; words++) {
            MeterBox x = saved(1);
            tear(x, words);
            Check.due("torn after " + words, x.power(true), 1);
        }
    }

    private static void isNotGoodEmpty() {
        Check.sentence(TERMS, "and word 0 is above 0");
        MeterBox x = new MeterBox();
        x.power(false);
        Check.due("never written", x.power(true), 0);
        MeterBox y = saved(12);
        tear(y, 0);
        Check.due("ERASED", y.flash(0, 0), -1);
        Check.due("nine of twelve", y.power(true), 9);
    }

    private static void countsFromOne() {
        Check.sentence(TERMS, "WORDS 0 1 more than the greatest word 0 of GOOD SLOTS (1 without any)");
        Check.due("without any", new MeterBox().save(), 1);
        MeterBox x = new MeterBox();
        for (int words = 0; words <= 5; words++) {
            tear(x, words);
            x.power(true);
        }
        Check.due("a torn one is not GOOD", x.save(), 1);
    }

    private static void countsOnFromTheGreatestGoodOne() {
        Check.sentence(TERMS, "WORDS 0 1 more than the greatest word 0 of GOOD SLOTS (1 without any)");
        for (int before = 1; before <= 44; before++) {
            MeterBox x = saved(before);
            tear(x, 5);
            Check.due("the torn one", x.flash(before % 12, 0), before + 1);
            x.power(true);
            Check.due("as if it were not there", x.save(), before + 1);
            Check.due("one more", x.save(), before + 2);
        }
        MeterBox y = saved(13);
        Check.due("the greatest is in SLOT 0, not in SLOT 11", y.save(), 14);
    }

    private static void cutsToALong() {
        Check.sentence(TERMS, "each times 1000.0, cut to a long");
        MeterBox x = new MeterBox();
        x.plan(0, 0, 1, 1);
        x.plan(0, 1, 2, 2);
        // 0.0019.., 0.0009.. and 0.0029.. and a CREDIT of 4.9942..
        x.use(100.0, 1.19, 1);
        x.use(100.0, 0.59, 1);
        x.use(100.0, 1.79, 1);
        x.save();
        Check.due("REGISTER 0", x.flash(0, 2), 1);
        Check.due("REGISTER 1", x.flash(0, 3), 0);
        Check.due("REGISTER 2", x.flash(0, 4), 2);
        Check.due("CREDIT", x.flash(0, 1), 12 * TIME_UNIT + 4994);
        MeterBox y = new MeterBox();
        Bench.draw(y, 20);
        y.use(100.0, 0.59, 1);
        y.save();
        Check.due("-0.0009.. is cut to 0", y.flash(0, 1), 84 * TIME_UNIT);
        y.use(100.0, 0.59, 1);
        y.save();
        Check.due("-0.0019.. is cut to -1", y.flash(1, 1), 88 * TIME_UNIT - 1);
    }

    private static void addsLast() {
        Check.sentence(TERMS, "to word 4 is added 1000000000 times LAST");
        MeterBox x = new MeterBox();
        x.save();
        Check.due("LAST 0", x.flash(0, 4), 0);
        x.plan(0, 0, 0, 2);
        Bench.draw(x, 3);
        x.token(Bench.tokenOf(Bench.CREDIT, 1, 0));
        Check.due("LAST 1", x.flash(1, 4), LAST_UNIT + 750);
        x.token(Bench.tokenOf(Bench.CREDIT, 16383, 0));
        Check.due("the greatest LAST", x.flash(2, 4), 16383 * LAST_UNIT + 750);
        Check.due("REGISTER 0 is not touched", x.flash(2, 2), 0);
        Check.due("REGISTER 1 is not touched", x.flash(2, 3), 0);
    }

    private static void addsTimeRelayAndEmergency() {
        Check.sentence(TERMS, "to word 1 1000000000000 times (TIME * 4 plus 1 if the RELAY is open plus 2 if EMERGENCY is used)");
        MeterBox x = new MeterBox();
        x.save();
        Check.due("TIME 0, closed, not used", x.flash(0, 1), 5000);
        Bench.idle(x, 1);
        x.save();
        Check.due("TIME 1", x.flash(1, 1), 4 * TIME_UNIT + 5000);
        MeterBox y = Bench.opened();
        y.save();
        Check.due("open", y.flash(0, 1), (381 * 4 + 1) * TIME_UNIT - 250);
        y.emergency();
        y.save();
        Check.due("used", y.flash(1, 1), (381 * 4 + 2) * TIME_UNIT - 250);
        Bench.draw(y, 8);
        y.save();
        Check.due("open and used", y.flash(2, 1), (389 * 4 + 3) * TIME_UNIT - 2250);
        MeterBox z = new MeterBox();
        for (int i = 0; i < 500; i++) {
            z.use(230.0, 0.0, 300);
        }
        Check.refused("104 days, but 48 SAVINGS", UnsupportedOperationException.class, z::save);
        Check.due("a late TIME", z.flash(11, 1), 48 * 5760 * TIME_UNIT + 5000);
    }

    private static void writesTheSum() {
        Check.sentence(TERMS, "7 times word 0, plus 11 times word 1, 13 times 2, 17 times 3, 19 times 4, plus 1 (wrapping)");
        MeterBox x = new MeterBox();
        x.plan(0, 0, 2, 1);
        x.plan(0, 1, 5, 2);
        x.token(Bench.tokenOf(Bench.CREDIT, 9000, 65535));
        Bench.draw(x, 9);
        x.save();
        long[] w = {2, 36 * TIME_UNIT + 658100, 500, 750, 9000 * LAST_UNIT + 1000};
        for (int i = 0; i < w.length; i++) {
            Check.due("word " + i, x.flash(1, i), w[i]);
        }
        Check.due("SUM", x.flash(1, 5), 14 + 11 * w[1] + 6500 + 12750 + 19 * w[4] + 1);
    }
}
