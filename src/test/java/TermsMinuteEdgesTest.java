/** The edges of Terms: a MINUTE. */
public final class TermsMinuteEdgesTest {
    private static final String TERMS = "Terms";

    public static void main(String[] args) {
        takesNothingWithAnOpenRelay();
        keepsTheHighest();
        addsToTheRegisterOfTheTariffAtTime();
        takesThePriceOfThatTariff();
        risesByOne();
        opensBelowNought();
        opensBelowMinusTwoInAnEmergency();
        opensInTheseMinutesOfTheDay();
        opensOnlyAClosedRelay();
        savesAtTheBeginningOfADay();
        notesASavingThatThrows();
        Check.end();
    }

    private static void takesNothingWithAnOpenRelay() {
        Check.sentence(TERMS, "RELAY open: a is 0.0");
        MeterBox x = Bench.opened();
        Check.due("no closed MINUTE", x.use(400.0, 100.0, 300), 0);
        Check.due("REGISTER 0", x.read(0), 5.25);
        Check.due("CREDIT", x.read(3), -0.25);
        Check.due("HIGHEST", x.read(4), 15000.0);
        Check.due("TIME", x.count(6), 681);
    }

    private static void keepsTheHighest() {
        Check.sentence(TERMS, "HIGHEST is p if that is more");
        MeterBox x = new MeterBox();
        x.use(-0.0, 2.0, 1);
        Check.due("-0.0 is not more than 0.0", x.read(4), 0.0);
        x.use(100.0, 2.0, 1);
        Check.due("more than 0.0", x.read(4), 200.0);
        x.use(Math.nextDown(100.0), 2.0, 1);
        Check.due("less", x.read(4), 200.0);
        x.use(50.0, 4.0, 1);
        Check.due("the same", x.read(4), 200.0);
        x.use(Math.nextUp(100.0), 2.0, 1);
        Check.due("more by the least", x.read(4), Math.nextUp(200.0));
        x.use(400.0, 100.0, 1);
        Check.due("the most", x.read(4), 40000.0);
    }

    private static void addsToTheRegisterOfTheTariffAtTime() {
        Check.sentence(TERMS, "e is p / 60000.0, added to the REGISTER of the TARIFF at TIME");
        MeterBox x = new MeterBox();
        x.plan(0, 0, 1, 1);
        x.plan(0, 1, 2, 2);
        Bench.draw(x, 1);
        Check.due("TIME 0: REGISTER 0", x.read(0), 0.25);
        Check.due("TIME 0: REGISTER 1", x.read(1), 0.0);
        Bench.draw(x, 1);
        Check.due("TIME 1: REGISTER 1", x.read(1), 0.25);
        Check.due("TIME 1: REGISTER 2", x.read(2), 0.0);
        Bench.draw(x, 1);
        Check.due("TIME 2: REGISTER 2", x.read(2), 0.25);
        MeterBox y = new MeterBox();
        y.plan(0, 0, 0, 1);
        y.plan(1, 0, 0, 2);
        Bench.idle(y, 7199);
        Bench.draw(y, 1);
        Check.due("the last MINUTE of day 4", y.read(1), 0.25);
        Bench.draw(y, 2);
        Check.due("the first two of day 5", y.read(2), 0.5);
        Check.due("none with TARIFF 0", y.read(0), 0.0);
        MeterBox z = new MeterBox();
        z.use(400.0, 100.0, 1);
        Check.due("the most", z.read(0), 40000.0 / 60000.0);
    }

    private static void takesThePriceOfThatTariff() {
        Check.sentence(TERMS, "the CREDIT falls by e * PRICE");
        MeterBox x = new MeterBox();
        x.token(Bench.tokenOf(Bench.PRICES, 1, 3 * 2000 + 1));
        x.token(Bench.tokenOf(Bench.PRICES, 2, 2));
        x.plan(0, 0, 1, 1);
        x.plan(0, 1, 2, 2);
        Bench.draw(x, 1);
        Check.due("PRICE 1.0", x.read(3), 4.75);
        Bench.draw(x, 1);
        Check.due("PRICE 2.0", x.read(3), 4.25);
        Bench.draw(x, 5);
        Check.due("PRICE 0.0", x.read(3), 4.25);
        Check.due("measured all the same", x.read(2), 1.25);
    }

    private static void risesByOne() {
        Check.sentence(TERMS, "TIME rises by 1");
        MeterBox x = new MeterBox();
        Bench.draw(x, 1);
        Check.due("one", x.count(6), 1);
        x.use(0.0, 0.0, 300);
        Check.due("three hundred", x.count(6), 301);
    }

    /** TIME 380, CREDIT 0.0, the RELAY closed. */
    private static MeterBox spent() {
        MeterBox x = new MeterBox();
        Bench.idle(x, 360);
        Bench.draw(x, 20);
        return x;
    }

    private static void opensBelowNought() {
        Check.sentence(TERMS, "if the CREDIT is below 0.0");
        MeterBox x = spent();
        Check.due("CREDIT 0.0", x.read(3), 0.0);
        Check.due("all closed", x.use(230.0, 0.0, 10), 10);
        Check.due("0.0 is not below", x.count(7), 1);
        Check.due("no EVENT", x.count(1), 0);
        Check.due("the least load", x.use(1.0e-9, 1.0e-9, 3), 1);
        Check.due("below by little", x.read(3), -(1.0e-9 * 1.0e-9 / 60000.0));
        Check.due("open", x.count(7), 0);
        Check.due("EVENT 1 with TIME risen", Bench.event(x, 0), 10391);
    }

    private static void opensBelowMinusTwoInAnEmergency() {
        Check.sentence(TERMS, "(EMERGENCY used: below -2.0)");
        MeterBox x = Bench.opened();
        x.emergency();
        Check.due("down to -2.0", Bench.draw(x, 7), 7);
        Check.due("CREDIT", x.read(3), -2.0);
        Check.due("all closed", x.use(230.0, 0.0, 10), 10);
        Check.due("-2.0 is not below", x.count(7), 1);
        Check.due("the least load", x.use(2.664e-11, 1.0, 3), 1);
        Check.due("below by the least", x.read(3), Math.nextDown(-2.0));
        Check.due("open", x.count(7), 0);
        Check.due("EVENT 1", Bench.event(x, 2), 10399);
    }

    private static void opensInTheseMinutesOfTheDay() {
        Check.sentence(TERMS, "and the minute of the day is 360 .. 1079: the RELAY is open (EVENT 1)");
        int[][] due = {{358, 0}, {359, 0}, {360, 1}, {361, 1}, {1078, 1}, {1079, 1}, {1080, 0}, {1081, 0}, {1439, 0}};
        for (int day = 0; day < 7; day += 3) {
            for (int[] row : due) {
                int time = day * 1440 + row[0];
                MeterBox x = atOnceBelow(time - 1);
                Bench.draw(x, 1);
                opensIf(x, "TIME now " + time, row[1] == 1);
                Check.due("TIME", x.count(6), time);
                MeterBox y = atOnceBelow(time - 1);
                y.use(150.0, 90.0, 1);
                opensIf(y, "not below 0.0, TIME now " + time, false);
            }
        }
    }

    /** So that a single MINUTE takes the CREDIT below 0.0. */
    private static MeterBox atOnceBelow(int time) {
        MeterBox x = new MeterBox();
        x.token(Bench.tokenOf(Bench.PRICES, 1, 3 * 21000));
        Bench.idle(x, time);
        return x;
    }

    private static void opensIf(MeterBox x, String what, boolean due) {
        Check.due(what + ": closed", x.count(7), due ? 0 : 1);
        Check.due(what + ": EVENTS", x.count(1), due ? 1 : 0);
        if (due) {
            Check.due(what, Bench.event(x, 0), 10000 + x.count(6) % 10000);
        }
    }

    private static void opensOnlyAClosedRelay() {
        Check.sentence(TERMS, "the RELAY is closed, and the minute of the day is");
        MeterBox x = Bench.opened();
        Bench.draw(x, 300);
        Check.due("one EVENT 1 alone", x.count(1), 1);
        Bench.idle(x, 1440);
        Check.due("on the next day too", x.count(1), 1);
        MeterBox y = new MeterBox();
        Bench.draw(y, 100);
        Check.due("below 0.0 by night", y.count(7), 1);
        Check.due("till 359", y.use(0.0, 0.0, 259), 259);
        Check.due("closed", y.count(7), 1);
        Check.due("at 360 without a load", y.use(0.0, 0.0, 2), 1);
        Check.due("EVENT 1", Bench.event(y, 0), 10360);
    }

    private static void savesAtTheBeginningOfADay() {
        Check.sentence(TERMS, "At the beginning of a day (TIME now): SAVED");
        MeterBox x = new MeterBox();
        Bench.idle(x, 1438);
        Bench.draw(x, 1);
        Check.due("TIME 1439", x.flash(0, 0), -1);
        Bench.draw(x, 1);
        Check.due("TIME 1440", x.flash(0, 0), 1);
        Check.due("with TIME now and the CREDIT now", x.flash(0, 1), 5760 * 1000000000000L + 4500);
        Check.due("with the REGISTER now", x.flash(0, 2), 500);
        Bench.draw(x, 1);
        Check.due("TIME 1441", x.flash(1, 0), -1);
        MeterBox y = new MeterBox();
        for (int day = 1; day <= 13; day++) {
            Bench.idle(y, 1440);
            int slot = (day - 1) % 12;
            Check.due("day " + day, y.flash(slot, 0), day);
            Check.due("day " + day, y.flash(slot, 1), day * 5760 * 1000000000000L + 5000);
        }
        Check.due("no EVENT", y.count(1), 0);
        MeterBox z = new MeterBox();
        z.use(230.0, 0.0, 1);
        Check.due("TIME 0 was no MINUTE's end", z.flash(0, 0), -1);
    }

    private static void notesASavingThatThrows() {
        Check.sentence(TERMS, "(EVENT 3 if that throws; nothing else then)");
        MeterBox x = Bench.wornOut();
        Bench.idle(x, 1439);
        Check.due("TIME 1439", x.count(1), 0);
        Check.due("the call goes on", Bench.draw(x, 4), 4);
        Check.due("one EVENT", x.count(1), 1);
        Check.due("EVENT 3", Bench.event(x, 0), 31440);
        Check.due("ON", x.count(0), 1);
        Check.due("TIME", x.count(6), 1443);
        Check.due("CREDIT", x.read(3), 4.0);
        Check.due("RELAY", x.count(7), 1);
        for (int s = 0; s < 4; s++) {
            Check.due("WEAR", x.count(2 + s), 4);
        }
        for (int slot = 0; slot < 12; slot++) {
            Check.due("word 0", x.flash(slot, 0), 37 + slot);
        }
        Bench.idle(x, 1440);
        Check.due("another one", Bench.event(x, 1), 32880);
    }
}
