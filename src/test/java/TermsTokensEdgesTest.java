/** The edges of Terms: TOKENS. */
public final class TermsTokensEdgesTest {
    private static final String TERMS = "Terms";

    public static void main(String[] args) {
        takesFortyBits();
        turnsTheBitsBack();
        checksTheSumOfFourBytes();
        knowsKindsByTheHighestBits();
        numbersByFourteenBits();
        addsCredit();
        endsTheEmergency();
        setsOnePrice();
        clears();
        Check.end();
    }

    private static void takesFortyBits() {
        Check.sentence(TERMS, "a long t of 0 .. 2^40 - 1");
        for (long t : new long[] {-1, 1L << 40, Long.MIN_VALUE, Long.MAX_VALUE}) {
            Look.refused("token " + t, IllegalArgumentException.class, Rich::closed, x -> x.token(t));
        }
        for (long t : new long[] {0, (1L << 40) - 1}) {
            Check.refused("token " + t + " is one, but a wrong one", UnsupportedOperationException.class,
                () -> new MeterBox().token(t));
        }
        // The same forty bits with one bit more are no token.
        long good = Bench.tokenOf(Bench.CREDIT, 1, 1);
        Check.due("a good one", new MeterBox().token(good), 0);
        Look.refused("a bit above", IllegalArgumentException.class, MeterBox::new, x -> x.token(good + (1L << 40)));
        Look.refused("the sign", IllegalArgumentException.class, MeterBox::new, x -> x.token(good + Long.MIN_VALUE));
    }

    private static void turnsTheBitsBack() {
        Check.sentence(TERMS, "u is t, its bits exclusive or 733007751850");
        // Number 1, x 0: BODY 65536, CHECK 38; 65536 * 256 + 38 = 16777254.
        MeterBox x = new MeterBox();
        Check.due("as worked out by hand", x.token(16777254L ^ 733007751850L), 0);
        Check.due("LAST", x.count(9), 1);
        Look.refused("not turned", UnsupportedOperationException.class, MeterBox::new, y -> y.token(16777254L),
            "count(1) = 1", "EVENT 0 = 40000");
        long good = Bench.tokenOf(Bench.PRICES, 8191, 4660);
        for (int bit = 0; bit < 40; bit++) {
            long other = good ^ 1L << bit;
            Check.refused("bit " + bit + " turned", UnsupportedOperationException.class,
                () -> new MeterBox().token(other));
        }
    }

    private static void checksTheSumOfFourBytes() {
        Check.sentence(TERMS, "CHECK u % 256: the sum of the four bytes of BODY, times 31, plus 7, modulo 256");
        long[][] rows = {
            {0x00010000L, 1 * 31 + 7}, {0x00010001L, 2 * 31 + 7}, {0x00010100L, 2 * 31 + 7},
            {0x01000000L, 1 * 31 + 7}, {0x000100FFL, (256 * 31 + 7) % 256}, {0x3FFFFFFFL, ((63 + 765) * 31 + 7) % 256},
            {0xBFFFFFFFL, ((191 + 765) * 31 + 7) % 256}, {0x00010007L, 8 * 31 + 7}, {0x00010008L, (9 * 31 + 7) % 256},
        };
        for (long[] row : rows) {
            int check = (int) row[1];
            Check.refused("BODY " + row[0], null, () -> new MeterBox().token(Bench.tokenOfBody(row[0], check)));
            for (int other : new int[] {(check + 1) % 256, (check + 255) % 256, check ^ 128}) {
                Look.refused("CHECK " + other + " of " + row[0], UnsupportedOperationException.class, MeterBox::new,
                    x -> x.token(Bench.tokenOfBody(row[0], other)), "count(1) = 1", "EVENT 0 = 40000");
            }
        }
    }

    private static void knowsKindsByTheHighestBits() {
        Check.sentence(TERMS, "BODY: its highest two bits the kind: 0 CREDIT, 1 PRICES, 2 CLEAR, 3 none");
        for (int kind = 0; kind <= 2; kind++) {
            for (int number : new int[] {1, 16383}) {
                for (int x : new int[] {0, 65535}) {
                    Check.due("kind " + kind, new MeterBox().token(Bench.tokenOf(kind, number, x)), kind);
                }
            }
        }
        for (int number : new int[] {0, 1, 16383}) {
            Look.refused("kind 3", UnsupportedOperationException.class, MeterBox::new,
                x -> x.token(Bench.tokenOf(3, number, 65535)), "count(1) = 1", "EVENT 0 = 40000");
        }
    }

    private static void numbersByFourteenBits() {
        Check.sentence(TERMS, "the next 14 bits the number; the lowest 16 bits x");
        for (int bit = 0; bit < 14; bit++) {
            MeterBox x = new MeterBox();
            x.token(Bench.tokenOf(Bench.CREDIT, 1 << bit, 0));
            Check.due("LAST", x.count(9), 1 << bit);
            Check.due("x 0", x.read(3), 5.0);
        }
        for (int bit = 0; bit < 16; bit++) {
            MeterBox x = new MeterBox();
            x.token(Bench.tokenOf(Bench.CREDIT, 1, 1 << bit));
            Check.due("number 1", x.count(9), 1);
            Check.due("CREDIT", x.read(3), 5.0 + (1 << bit) / 100.0);
        }
        MeterBox y = new MeterBox();
        y.token(Bench.tokenOf(Bench.CREDIT, 16383, 65535));
        Check.due("the greatest number", y.count(9), 16383);
        Check.due("the greatest x", y.read(3), 5.0 + 655.35);
    }

    private static void addsCredit() {
        Check.sentence(TERMS, "CREDIT: x / 100.0 is added to it");
        int[] some = {0, 1, 99, 100, 101, 65534, 65535};
        for (int x : some) {
            MeterBox m = new MeterBox();
            Bench.draw(m, 28);
            m.token(Bench.tokenOf(Bench.CREDIT, 1, x));
            Check.due("x " + x, m.read(3), -2.0 + x / 100.0);
        }
        for (int x = 0; x < 300; x++) {
            MeterBox m = new MeterBox();
            Bench.draw(m, 20);
            m.token(Bench.tokenOf(Bench.CREDIT, 1, x));
            Check.due("to 0.0: x " + x, m.read(3), x / 100.0);
        }
        Look.changes("nothing else", () -> Bench.opened(), x -> x.token(Bench.tokenOf(Bench.CREDIT, 3, 24)),
            "read(3) = -0.010000000000000009", "count(9) = 3", "count(2) = 1", "flash(0, 0) = 1",
            "flash(0, 1) = 1524999999999990", "flash(0, 2) = 5250", "flash(0, 3) = 0", "flash(0, 4) = 3000000000",
            "flash(0, 5) = " + (7 + 11 * 1524999999999990L + 13 * 5250 + 19 * 3000000000L + 1));
    }

    private static void endsTheEmergency() {
        Check.sentence(TERMS, "EMERGENCY is not used any more");
        for (int kind = 0; kind <= 2; kind++) {
            MeterBox x = Bench.opened();
            x.emergency();
            x.token(Bench.tokenOf(kind, 1, 0));
            Check.due("kind " + kind, x.count(8), kind == Bench.CREDIT ? 0 : 1);
        }
        MeterBox y = Bench.opened();
        y.emergency();
        y.token(Bench.tokenOf(Bench.CREDIT, 1, 0));
        Check.due("closed still", y.count(7), 1);
        Check.due("opened at 0.0 again", Bench.draw(y, 2), 1);
        Check.due("may be used again", y.emergency(), 1);
    }

    private static void setsOnePrice() {
        Check.sentence(TERMS, "PRICES: that of TARIFF x % 3 becomes x / 3 / 1000.0");
        int[] some = {0, 1, 2, 3, 4, 5, 2999, 3000, 3001, 65533, 65534, 65535};
        for (int x : some) {
            MeterBox m = new MeterBox();
            m.token(Bench.tokenOf(Bench.PRICES, 1, x));
            for (int tariff = 0; tariff < 3; tariff++) {
                double due = tariff == x % 3 ? Math.floorDiv(x, 3) / 1000.0 : 1.0;
                Check.due("x " + x + ": PRICE of " + tariff, m.price(tariff), due);
            }
            Check.due("CREDIT", m.read(3), 5.0);
        }
        MeterBox least = new MeterBox();
        least.token(Bench.tokenOf(Bench.PRICES, 1, 2));
        Check.due("the least", least.price(2), 0.0);
        MeterBox greatest = new MeterBox();
        greatest.token(Bench.tokenOf(Bench.PRICES, 1, 65535));
        Check.due("the greatest", greatest.price(0), 21.845);
    }

    private static void clears() {
        Check.sentence(TERMS, "CLEAR: HIGHEST is 0.0, and EVENTS are none");
        for (int x : new int[] {0, 1, 65535}) {
            MeterBox m = new MeterBox();
            for (int i = 0; i < 13; i++) {
                m.use(300.0, 1.0, 1);
            }
            m.token(Bench.tokenOf(Bench.CLEAR, 1, x));
            Check.due("HIGHEST", m.read(4), 0.0);
            Check.due("EVENTS", m.count(1), 0);
            Check.refused("EVENT 0", UnsupportedOperationException.class, () -> Bench.event(m, 0));
            Check.due("TIME", m.count(6), 13);
            Check.due("PRICE", m.price(0), 1.0);
            m.use(300.0, 0.0, 1);
            Check.due("the next is the first", Bench.event(m, 0), 20013);
        }
        MeterBox none = new MeterBox();
        Check.due("with none kept", none.token(Bench.tokenOf(Bench.CLEAR, 1, 0)), 2);
        Check.due("EVENTS", none.count(1), 0);
    }
}
