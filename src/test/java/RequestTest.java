/** Promise 9. */
public final class RequestTest {
    public static void main(String[] args) {
        answersAsWritten();
        readsValues();
        readsWear();
        readsEvents();
        refusesUnknown();
        refusesWrongLengths();
        refusesWrongFcs();
        isOverAfterItsEnd();
        goesOnWithoutBytes();
        takesEscapes();
        escapesTheReply();
        makesLongReplies();
        refusesWrongNumbers();
        Check.end();
    }

    private static void answersAsWritten() {
        MeterBox x = new MeterBox();
        Check.due("passed over", Bench.send(x, 0, 5, 125, 234, 88, 255), 0);
        Check.due("READ TIME", Bench.send(x, 126, 0, 5, 234, 88, 126), 13);
        // FCS of 128 and eight times 0, worked out apart.
        int fcs = Bench.fcsOf(128, 0, 0, 0, 0, 0, 0, 0, 0);
        int[] due = {126, 128, 0, 0, 0, 0, 0, 0, 0, 0, fcs % 256, fcs / 256, 126};
        for (int i = 0; i < due.length; i++) {
            Check.due("reply(" + i + ")", x.reply(i), due[i]);
        }
        Check.due("the FCS of 123456789", Bench.fcsOf(49, 50, 51, 52, 53, 54, 55, 56, 57), 0x906E);
    }

    private static void readsValues() {
        MeterBox x = new MeterBox();
        x.plan(0, 0, 1, 1);
        x.plan(0, 1, 3, 2);
        x.use(230.0, 1.0, 1);
        Bench.draw(x, 5);
        long[] due = {3, 500, 750, 3746, 15000000, 6};
        for (int i = 0; i < due.length; i++) {
            Check.due("READ " + i, Bench.ask(x, 0, i), due[i]);
        }
        MeterBox y = Bench.opened();
        Check.due("below 0", Bench.ask(y, 0, 3), -250);
        Bench.idle(y, 2);
        Check.due("TIME", Bench.ask(y, 0, 5), 383);
        MeterBox z = new MeterBox();
        Bench.draw(z, 20);
        z.use(230.0, 0.4, 1);
        Check.due("cut to a long", Bench.ask(z, 0, 3), -1);
    }

    private static void readsWear() {
        MeterBox x = new MeterBox();
        for (int i = 0; i < 19; i++) {
            x.save();
        }
        long[] due = {2, 2, 2, 1};
        for (int i = 0; i < due.length; i++) {
            Check.due("WEAR " + i, Bench.ask(x, 1, i), due[i]);
        }
    }

    private static void readsEvents() {
        MeterBox x = new MeterBox();
        for (int i = 0; i < 12; i++) {
            Check.due("kept", x.count(1), i);
            x.use(300.0, 0.0, 1);
        }
        Check.due("the oldest", Bench.event(x, 0), 20000);
        Check.due("the latest", Bench.event(x, 11), 20011);
        x.use(300.0, 0.0, 1);
        Check.due("at most 12", x.count(1), 12);
        Check.due("the oldest was dropped", Bench.event(x, 0), 20001);
        Check.due("in order", Bench.event(x, 5), 20006);
        Check.due("in order", Bench.event(x, 10), 20011);
        Check.due("the latest", Bench.event(x, 11), 20012);
        Check.refused("not kept", UnsupportedOperationException.class, () -> Bench.event(x, 12));
        MeterBox y = new MeterBox();
        Bench.idle(y, 12345);
        y.use(300.0, 0.0, 1);
        Check.due("TIME modulo 10000", Bench.event(y, 0), 22345);
        Check.refused("not kept", UnsupportedOperationException.class, () -> Bench.event(y, 1));
    }

    private static void refusesUnknown() {
        MeterBox x = new MeterBox();
        Bench.ask(x, 0, 3);
        byte[] before = Bench.replyOf(x, 13);
        int[][] wrong = {{0, 6}, {0, 255}, {1, 4}, {1, 128}, {2, 0}, {2, 255}, {3, 0}, {128, 0}, {255, 1}};
        for (int[] w : wrong) {
            Check.refused("command " + w[0] + " " + w[1], UnsupportedOperationException.class,
                () -> Bench.ask(x, w[0], w[1]));
            Check.due("it is over", x.request(0), 0);
        }
        Check.due("the reply stays", java.util.Arrays.equals(before, Bench.replyOf(x, 13)) ? 1 : 0, 1);
        Check.refused("the reply stays", IndexOutOfBoundsException.class, () -> x.reply(13));
    }

    private static void refusesWrongLengths() {
        for (int length = 1; length <= 20; length++) {
            MeterBox x = new MeterBox();
            int[] bytes = new int[Math.max(0, length - 2)];
            if (bytes.length > 1) {
                bytes[1] = 3;
            }
            int[] sent = length == 1 ? new int[] {126, 7, 126} : Bench.frame(bytes);
            if (length >= 4 && length <= 12) {
                Check.due("length " + length, Bench.send(x, sent), 13);
                Check.due("the credit", x.reply(8), 19);
            } else {
                Check.refused("length " + length, IllegalStateException.class, () -> Bench.send(x, sent));
            }
        }
        MeterBox y = new MeterBox();
        int[] lengthy = new int[300];
        java.util.Arrays.fill(lengthy, 1);
        lengthy[0] = 126;
        lengthy[299] = 126;
        Check.refused("298 bytes", IllegalStateException.class, () -> Bench.send(y, lengthy));
    }

    private static void refusesWrongFcs() {
        MeterBox x = new MeterBox();
        int[][] wrong = {
            {126, 0, 5, 88, 234, 126}, {126, 0, 5, 234, 89, 126}, {126, 0, 5, 235, 88, 126},
            {126, 0, 4, 234, 88, 126}, {126, 1, 5, 234, 88, 126}, {126, 9, 9, 0, 0, 126},
            {126, 0, 5, 0, 234, 88, 126},
        };
        for (int[] bytes : wrong) {
            Check.refused("wrong FCS", ArithmeticException.class, () -> Bench.send(x, bytes));
        }
        Check.refused("no reply yet", IndexOutOfBoundsException.class, () -> x.reply(0));
    }

    private static void isOverAfterItsEnd() {
        MeterBox x = new MeterBox();
        int[][] firsts = {{126, 0, 5, 234, 88, 126}, {126, 1, 126}, {126, 0, 5, 0, 0, 126}, {126, 3, 0, 47, 37, 126}};
        for (int[] first : firsts) {
            try {
                Bench.send(x, first);
            } catch (RuntimeException e) {
                // Whether it is refused is told elsewhere.
            }
            Check.due("a byte between is passed over, the flag begins", Bench.send(x, 9, 9, 126), 0);
            Check.due("the next is whole", Bench.send(x, 0, 5, 234, 88, 126), 13);
        }
    }

    private static void goesOnWithoutBytes() {
        MeterBox x = new MeterBox();
        Check.due("two flags", Bench.send(x, 126, 126, 0, 5, 234, 88, 126), 13);
        Check.due("five flags", Bench.send(x, 126, 126, 126, 126, 126, 0, 5, 234, 88, 126), 13);
        Check.due("over", Bench.send(x, 0, 5, 234, 88, 126), 0);
    }

    private static void takesEscapes() {
        MeterBox x = new MeterBox();
        Check.due("any byte", Bench.send(x, 126, 125, 32, 125, 37, 125, 202, 125, 120, 126), 13);
        Check.refused("an escaped flag does not end", IllegalStateException.class,
            () -> Bench.send(x, 126, 0, 125, 126, 1, 126));
        int fcs = Bench.fcsOf(0, 5, 94, 93);
        Check.due("escaped flag and escape are 94 and 93",
            Bench.send(x, 126, 0, 5, 125, 126, 125, 125, fcs % 256, fcs / 256, 126), 13);
        int[] both = Bench.frame(0, 5, 125, 126);
        Check.due("escaped", Bench.send(x, both), 13);
        Check.due("an escape outside is passed over", Bench.send(x, 125, 126, 0, 5, 234, 88, 126), 13);
    }

    private static void escapesTheReply() {
        MeterBox x = new MeterBox();
        Bench.idle(x, 125);
        Check.due("125", Bench.ask(x, 0, 5), 125);
        Check.due("escape", x.reply(9), 125);
        Check.due("escaped", x.reply(10), 93);
        Bench.idle(x, 1);
        Check.due("126", Bench.ask(x, 0, 5), 126);
        Check.due("escape", x.reply(9), 125);
        Check.due("escaped", x.reply(10), 94);
        for (int b : new int[] {125, 126}) {
            escapesTheFcs(b, 1);
            escapesTheFcs(b, 256);
        }
    }

    /** Asks at a TIME whose reply has the byte in its FCS (unit 1: the lower, 256: the higher one). */
    private static void escapesTheFcs(int b, int unit) {
        int time = 1;
        while (Bench.fcsOf(128, 0, 0, 0, 0, 0, 0, time / 256, time % 256) / unit % 256 != b) {
            time++;
        }
        MeterBox x = new MeterBox();
        Bench.idle(x, time);
        Check.due("TIME", Bench.ask(x, 0, 5), time);
    }

    /** The numbers were searched for: most of their bytes, and some of their FCS, must be escaped. */
    private static void makesLongReplies() {
        MeterBox x = new MeterBox();
        x.use(153.94535, 10.0, 1);
        Check.due("16 bytes", Bench.send(x, Bench.frame(0, 4)), 16);
        Check.due("HIGHEST", Bench.ask(x, 0, 4), 1539453);
        MeterBox y = new MeterBox();
        int left = 20954572;
        for (int number = 1; left > 0; number++) {
            int some = Math.min(left, 65535);
            left -= some;
            tokenThoughWornOut(y, Bench.tokenOf(Bench.CREDIT, number, some));
        }
        y.use(150.0, 1.0, 1);
        Check.due("17 bytes", Bench.send(y, Bench.frame(0, 3)), 17);
        Check.due("CREDIT", Bench.ask(y, 0, 3), 209550717);
    }

    private static void tokenThoughWornOut(MeterBox x, long token) {
        try {
            x.token(token);
        } catch (UnsupportedOperationException e) {
            // There are more tokens than savings; each has worked.
        }
    }

    private static void refusesWrongNumbers() {
        MeterBox x = new MeterBox();
        Bench.send(x, 126, 0, 5);
        for (int b : new int[] {-1, 256, 126 + 256, Integer.MIN_VALUE, Integer.MAX_VALUE}) {
            Check.refused("byte " + b, IllegalArgumentException.class, () -> x.request(b));
        }
        Check.due("nothing was changed", Bench.send(x, 234, 88, 126), 13);
        x.power(false);
        Check.refused("OFF", IllegalStateException.class, () -> x.request(126));
        Check.refused("OFF and wrong", IllegalArgumentException.class, () -> x.request(256));
        x.power(true);
        Check.due("not begun while OFF", Bench.send(x, 0, 5, 234, 88, 126), 0);
    }
}
