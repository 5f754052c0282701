import java.util.ArrayList;
import java.util.List;

/** The edges of promise 9: request. */
public final class Promise09EdgesTest {
    private static final String PROMISE = "Promise 9";
    private static final Class<?> STATE = IllegalStateException.class;
    private static final Class<?> ARITHMETIC = ArithmeticException.class;
    private static final Class<?> UNSUPPORTED = UnsupportedOperationException.class;

    public static void main(String[] args) {
        takesBytes();
        mustBeOn();
        beginsAndEndsWithAFlag();
        escapesAnyByte();
        passesOverOthers();
        goesOnWithoutBytes();
        refusesFewerThanFour();
        refusesMoreThanTwelve();
        refusesAnotherFcs();
        takesTheLowerByteFirst();
        refusesInThisOrder();
        readsTheState();
        cutsToALong();
        readsWear();
        readsEvents();
        refusesOtherCommands();
        isOverAfterAll();
        leavesTheReplyWhenRefused();
        makesTheReply();
        framesTheReplyAlike();
        answersNought();
        Check.end();
    }

    private static int[] withFcs(int... bytes) {
        int[] row = java.util.Arrays.copyOf(bytes, bytes.length + 2);
        int fcs = Bench.fcsOf(bytes);
        row[bytes.length] = fcs % 256;
        row[bytes.length + 1] = fcs / 256;
        return row;
    }

    /** Each byte escaped, whether it must be or not, between flags. */
    private static int[] escaped(int... bytes) {
        int[] row = new int[2 * bytes.length + 2];
        row[0] = 126;
        for (int i = 0; i < bytes.length; i++) {
            row[2 * i + 1] = 125;
            row[2 * i + 2] = bytes[i] ^ 32;
        }
        row[row.length - 1] = 126;
        return row;
    }

    /** Command 0 with argument 5, and as many bytes more as it takes for the length, the FCS among them. */
    private static int[] ofLength(int length) {
        int[] bytes = new int[length - 2];
        if (length > 3) {
            bytes[1] = 5;
        }
        return Bench.frame(bytes);
    }

    private static void takesBytes() {
        Check.sentence(PROMISE, "b 0 .. 255, a byte of a REQUEST");
        Look.outOfRange("b", 0, 255, MeterBox::request);
        Look.withinRange("b", 0, 255, n -> new MeterBox().request(n));
        Look.withinRange("b within one", 0, 255, n -> Bench.send(new MeterBox(), 126, n));
        Look.refused("256 within an escape", IllegalArgumentException.class, Rich::escaped, x -> x.request(256));
        Look.refused("126 + 256", IllegalArgumentException.class, Rich::closed, x -> x.request(126 + 256));
        Look.refused("126 - 256", IllegalArgumentException.class, Rich::closed, x -> x.request(126 - 256));
    }

    private static void mustBeOn() {
        Check.sentence("Terms", "IllegalStateException: the METER is OFF (where it must be ON)");
        for (int b : new int[] {0, 125, 126, 255}) {
            Look.refused("OFF by power", STATE, Rich::off, x -> x.request(b));
            Look.refused("OFF by a CUT", STATE, Rich::torn, x -> x.request(b));
        }
    }

    private static void beginsAndEndsWithAFlag() {
        Check.sentence(PROMISE, "126 begins and ends one");
        MeterBox x = new MeterBox();
        Check.due("it begins", x.request(126), 0);
        Check.due("bytes", Bench.send(x, 0, 5, 234, 88), 0);
        Check.due("it ends", x.request(126), 13);
        Check.due("outside again", Bench.send(x, 0, 5, 234, 88), 0);
        Check.due("it begins, the one before has ended", x.request(126), 0);
        Check.due("bytes", Bench.send(x, 0, 5, 234, 88, 126), 13);
        for (int b : new int[] {94, 127, 124, 254}) {
            MeterBox y = new MeterBox();
            Check.due(b + " begins none", Bench.send(y, b, 0, 5, 234, 88, 126), 0);
            Check.due("126 did", Bench.send(y, 0, 5, 234, 88, 126), 13);
        }
    }

    private static void escapesAnyByte() {
        Check.sentence(PROMISE, "125 within one: the next byte, whatever it is, is taken exclusive or 32");
        MeterBox x = new MeterBox();
        Check.due("all escaped", Bench.send(x, escaped(withFcs(0, 5))), 13);
        int[] hard = withFcs(0, 5, 94, 93, 126, 125);
        // 94 and 93 are sent as 126 and 125 behind an escape: neither ends it, nor escapes again.
        Check.due("a flag and an escape escaped", Bench.send(x, escaped(hard)), 13);
        Look.refused("escaped, a flag does not end it", STATE, Rich::escaped,
            y -> {
                Check.due("the flag", y.request(126), 0);
                y.request(126);
            }, overRows());
        MeterBox z = new MeterBox();
        Bench.send(z, 126, 125);
        Check.due("escaped first, a flag is a byte", z.request(126), 0);
        Check.refused("so there is one byte", STATE, () -> z.request(126));
        for (int b = 0; b < 256; b++) {
            MeterBox each = new MeterBox();
            int[] row = withFcs(0, 5, b);
            int[] sent = {126, 125, 32, 125, 37, 125, b ^ 32, 125, row[3] ^ 32, 125, row[4] ^ 32, 126};
            Check.due("byte " + b, Bench.send(each, sent), 13);
        }
    }

    /** A request of 126 and 0 that is over. */
    private static String[] overRows() {
        return new String[] {
            "line = [0, 0, 0, 0, 0, 0, 0, 0, 13]", "escaped line = [0, 0, 0, 0, 0, 0, 0, 0, 13]",
        };
    }

    private static void passesOverOthers() {
        Check.sentence(PROMISE, "Outside of one others are passed over.");
        MeterBox x = new MeterBox();
        for (int b = 0; b < 256; b++) {
            if (b != 126) {
                Check.due("byte " + b, x.request(b), 0);
            }
        }
        Check.due("none has begun", Bench.send(x, 125, 126, 0, 5, 234, 88, 126), 13);
        Check.due("after one, too", Bench.send(x, 0, 5, 125, 126, 0, 5, 234, 88, 126), 13);
    }

    private static void goesOnWithoutBytes() {
        Check.sentence(PROMISE, "At its end, with bytes in it (without any it goes on to the next)");
        for (int flags = 2; flags <= 6; flags++) {
            MeterBox x = new MeterBox();
            for (int i = 0; i < flags; i++) {
                Check.due("flag " + i, x.request(126), 0);
            }
            Check.due("after " + flags, Bench.send(x, 0, 5, 234, 88, 126), 13);
        }
        Look.changes("a second flag", () -> {
            MeterBox x = new MeterBox();
            x.request(126);
            return x;
        }, x -> x.request(126));
        MeterBox y = new MeterBox();
        Bench.send(y, 126, 0, 5, 234, 88, 126);
        Check.due("an end begins none", Bench.send(y, 0, 5, 234, 88, 126), 0);
    }

    private static void refusesFewerThanFour() {
        Check.sentence(PROMISE, "fewer than 4 or more than 12: IllegalStateException");
        refusedWhole("1 byte", STATE, 126, 7, 126);
        refusedWhole("2 bytes, an FCS of none", STATE, Bench.frame());
        refusedWhole("3 bytes", STATE, ofLength(3));
        Check.due("4 bytes", Bench.send(new MeterBox(), ofLength(4)), 13);
        refusedWhole("an escape is no byte of its own", STATE, 126, 0, 125, 37, 234, 126);
    }

    /** The bytes are refused at the last one, and leave no trace. */
    private static void refusedWhole(String what, Class<?> want, int... bytes) {
        Look.refused(what, want, () -> {
            MeterBox x = new MeterBox();
            Bench.ask(x, 0, 3);
            return x;
        }, x -> Bench.send(x, bytes));
    }

    private static void refusesMoreThanTwelve() {
        Check.sentence(PROMISE, "fewer than 4 or more than 12: IllegalStateException");
        for (int length = 4; length <= 12; length++) {
            Check.due(length + " bytes", Bench.send(new MeterBox(), ofLength(length)), 13);
        }
        for (int length : new int[] {13, 14, 24, 25, 100, 256, 260, 268}) {
            refusedWhole(length + " bytes", STATE, ofLength(length));
        }
        int[] twelve = withFcs(0, 5, 1, 2, 3, 4, 5, 6, 7, 8);
        Check.due("12 bytes, all escaped", Bench.send(new MeterBox(), escaped(twelve)), 13);
        refusedWhole("13 bytes, all escaped", STATE, escaped(withFcs(0, 5, 1, 2, 3, 4, 5, 6, 7, 8, 9)));
    }

    private static void refusesAnotherFcs() {
        Check.sentence(PROMISE, "the last two are not the FCS of those before, the lower byte first: ArithmeticException");
        int[][] wrong = {
            {0, 5, 235, 88}, {0, 5, 233, 88}, {0, 5, 234, 89}, {0, 5, 234, 87}, {0, 5, 0, 0}, {0, 5, 255, 255},
            {0, 4, 234, 88}, {1, 5, 234, 88}, {0, 5, 0, 234, 88}, {0, 0, 5, 234, 88},
        };
        for (int[] bytes : wrong) {
            int[] sent = new int[bytes.length + 2];
            System.arraycopy(bytes, 0, sent, 1, bytes.length);
            sent[0] = 126;
            sent[sent.length - 1] = 126;
            refusedWhole("FCS", ARITHMETIC, sent);
        }
        for (int bit = 0; bit < 16; bit++) {
            int fcs = Bench.fcsOf(0, 5) ^ 1 << bit;
            refusedWhole("bit " + bit, ARITHMETIC, 126, 0, 5, fcs % 256, fcs / 256, 126);
        }
    }

    private static void takesTheLowerByteFirst() {
        Check.sentence(PROMISE, "FCS: f is 65535; for each byte f is f exclusive or it, then eight times: f / 2, exclusive or 33800 if f was odd; at the end 65535 minus f.");
        Check.due("234 and 88", Bench.send(new MeterBox(), 126, 0, 5, 234, 88, 126), 13);
        refusedWhole("88 and 234", ARITHMETIC, 126, 0, 5, 88, 234, 126);
        // The well-known one of 31 .. 39 (hexadecimal) is 906E: then the command is refused, not the FCS.
        refusedWhole("906E", UNSUPPORTED, 126, 49, 50, 51, 52, 53, 54, 55, 56, 57, 0x6E, 0x90, 126);
    }

    private static void refusesInThisOrder() {
        Check.sentence(PROMISE, "fewer than 4 or more than 12: IllegalStateException; the last two are not the FCS of those before, the lower byte first: ArithmeticException; byte 0 is the command, 1 its argument");
        refusedWhole("too short, before a wrong FCS", STATE, 126, 9, 9, 9, 126);
        refusedWhole("too long, before a wrong FCS", STATE, 126, 9, 9, 9, 9, 9, 9, 9, 9, 9, 9, 9, 9, 9, 126);
        refusedWhole("a wrong FCS, before an unknown command", ARITHMETIC, 126, 9, 9, 9, 9, 126);
        refusedWhole("an unknown command", UNSUPPORTED, Bench.frame(9, 9));
        refusedWhole("too long, before an unknown command", STATE, Bench.frame(9, 9, 9, 9, 9, 9, 9, 9, 9, 9, 9));
    }

    private static void readsTheState() {
        Check.sentence(PROMISE, "0 READ: argument 0 .. 2 the REGISTER, 3 the CREDIT, 4 HIGHEST, each times 1000.0 cut to a long, 5 TIME");
        MeterBox x = new MeterBox();
        x.plan(0, 0, 1, 1);
        x.plan(0, 1, 3, 2);
        Bench.draw(x, 6);
        long[] due = {250, 500, 750, 3500, 15000000, 6};
        for (int i = 0; i < due.length; i++) {
            Check.due("argument " + i, Bench.ask(x, 0, i), due[i]);
        }
        for (int argument : new int[] {6, 7, 128, 255}) {
            refusedWhole("argument " + argument, UNSUPPORTED, Bench.frame(0, argument));
        }
        Check.due("bytes behind are not looked at", Bench.send(x, Bench.frame(0, 5, 255, 254)), 13);
        Check.due("TIME", x.reply(9), 6);
    }

    private static void cutsToALong() {
        Check.sentence(PROMISE, "each times 1000.0 cut to a long");
        MeterBox x = new MeterBox();
        x.use(100.0, 1.19, 1);
        Check.due("0.0019..", Bench.ask(x, 0, 0), 1);
        Check.due("4.9980..", Bench.ask(x, 0, 3), 4998);
        x.use(0.0379, 0.1, 1);
        Check.due("119.0", Bench.ask(x, 0, 4), 119000);
        MeterBox y = new MeterBox();
        Bench.draw(y, 20);
        y.use(100.0, 0.59, 1);
        Check.due("-0.0009..", Bench.ask(y, 0, 3), 0);
        y.use(100.0, 0.59, 1);
        Check.due("-0.0019..", Bench.ask(y, 0, 3), -1);
        Check.due("a long below 0: its highest byte", x0(y), 255);
        MeterBox z = new MeterBox();
        z.use(0.0379, 0.1, 1);
        Check.due("0.00379", Bench.ask(z, 0, 4), 3);
    }

    private static int x0(MeterBox x) {
        Bench.send(x, Bench.frame(0, 3));
        return x.reply(2);
    }

    private static void readsWear() {
        Check.sentence(PROMISE, "1 WEAR of SECTOR");
        MeterBox x = new MeterBox();
        for (int i = 0; i < 40; i++) {
            x.save();
        }
        long[] due = {4, 4, 3, 3};
        for (int s = 0; s < 4; s++) {
            Check.due("SECTOR " + s, Bench.ask(x, 1, s), due[s]);
        }
        for (int argument : new int[] {4, 5, 128, 255}) {
            refusedWhole("SECTOR " + argument, UNSUPPORTED, Bench.frame(1, argument));
        }
    }

    private static void readsEvents() {
        Check.sentence(PROMISE, "2 EVENT, the argument-th, from 0, kept");
        for (int kept = 0; kept <= 14; kept++) {
            MeterBox x = new MeterBox();
            for (int i = 0; i < kept; i++) {
                x.use(300.0, 0.0, 1);
            }
            int size = Math.min(kept, 12);
            for (int i = 0; i < size; i++) {
                Check.due("EVENT " + i + " of " + kept, Bench.event(x, i), 20000 + kept - size + i);
            }
            Check.refused("behind the last of " + kept, UNSUPPORTED, () -> Bench.event(x, size));
            Check.refused("EVENT 255 of " + kept, UNSUPPORTED, () -> Bench.event(x, 255));
        }
        for (int argument : new int[] {0, 1, 11, 12, 255}) {
            refusedWhole("none kept, EVENT " + argument, UNSUPPORTED, Bench.frame(2, argument));
        }
    }

    private static void refusesOtherCommands() {
        Check.sentence(PROMISE, "others, or another argument: UnsupportedOperationException");
        for (int command = 3; command <= 255; command++) {
            int c = command;
            MeterBox x = new MeterBox();
            Check.refused("command " + c, UNSUPPORTED, () -> Bench.send(x, Bench.frame(c, 0)));
            Check.refused("no REPLY", IndexOutOfBoundsException.class, () -> x.reply(0));
        }
        for (int command : new int[] {3, 125, 126, 128, 129, 130, 255}) {
            refusedWhole("command " + command, UNSUPPORTED, Bench.frame(command, 0));
        }
    }

    private static void isOverAfterAll() {
        Check.sentence(PROMISE, "(All: the REQUEST is over.)");
        int[][] firsts = {
            {126, 7, 126}, ofLength(13), {126, 0, 5, 0, 0, 126}, Bench.frame(3, 0), Bench.frame(0, 6),
            Bench.frame(1, 4), Bench.frame(2, 0), Bench.frame(0, 5),
        };
        for (int[] first : firsts) {
            MeterBox x = new MeterBox();
            Look.answer(() -> Bench.send(x, first));
            Check.due("bytes are passed over", Bench.send(x, 1, 2, 125), 0);
            Check.due("the next begins", x.request(126), 0);
            Check.due("the next is whole", Bench.send(x, 0, 5, 234, 88, 126), 13);
        }
    }

    private static void leavesTheReplyWhenRefused() {
        Check.sentence("Terms", "A call that throws changes nothing, but as said.");
        Look.refused("too short", STATE, Rich::closed, x -> x.request(126), overRows());
        Look.refused("a wrong FCS", ARITHMETIC, Rich::closed, x -> Bench.send(x, 9, 9, 9, 126), overRows());
        int fcs = Bench.fcsOf(0, 6);
        Look.refused("another argument", UNSUPPORTED, Rich::closed,
            x -> Bench.send(x, 6, fcs % 256, fcs / 256, 126), overRows());
    }

    private static void makesTheReply() {
        Check.sentence(PROMISE, "The REPLY is made: the command plus 128, 8 bytes of the number, the highest first, and the FCS of these nine, framed alike.");
        MeterBox x = new MeterBox();
        Bench.idle(x, 258);
        replies(x, 0, 5, 128, 0, 0, 0, 0, 0, 0, 1, 2);
        replies(x, 1, 0, 129, 0, 0, 0, 0, 0, 0, 0, 0);
        x.use(300.0, 0.0, 1);
        replies(x, 2, 0, 130, 0, 0, 0, 0, 0, 0, 20258 / 256, 20258 % 256);
        MeterBox y = Bench.opened();
        replies(y, 0, 3, 128, 255, 255, 255, 255, 255, 255, 255, 6);
        y.token(Bench.tokenOf(Bench.PRICES, 1, 0));
        replies(y, 1, 0, 129, 0, 0, 0, 0, 0, 0, 0, 1);
        MeterBox z = new MeterBox();
        z.use(400.0, 100.0, 1);
        // 40000000 is 2 * 16777216 + 98 * 65536 + 90 * 256.
        replies(z, 0, 4, 128, 0, 0, 0, 0, 2, 98, 90, 0);
    }

    private static void replies(MeterBox x, int command, int argument, int... nine) {
        int[] due = Bench.frame(nine);
        Check.due("its length", Bench.send(x, Bench.frame(command, argument)), due.length);
        for (int i = 0; i < due.length; i++) {
            Check.due("command " + command + ": reply(" + i + ")", x.reply(i), due[i]);
        }
        Check.refused("behind it", IndexOutOfBoundsException.class, () -> x.reply(due.length));
    }

    private static void framesTheReplyAlike() {
        Check.sentence(PROMISE, "framed alike");
        for (int time = 123; time <= 128; time++) {
            MeterBox x = new MeterBox();
            Bench.idle(x, time);
            List<Integer> row = new ArrayList<>(List.of(126, 128, 0, 0, 0, 0, 0, 0, 0));
            if (time == 125 || time == 126) {
                row.add(125);
                row.add(time - 32);
            } else {
                row.add(time);
            }
            Check.due("TIME " + time + ": its end is the same", Bench.ask(x, 0, 5), time);
            for (int i = 0; i < row.size(); i++) {
                Check.due("TIME " + time + ": reply(" + i + ")", x.reply(i), row.get(i));
            }
        }
        for (int time = 0; time < 1440; time += 7) {
            MeterBox x = new MeterBox();
            Bench.idle(x, time);
            replies(x, 0, 5, 128, 0, 0, 0, 0, 0, 0, time / 256, time % 256);
        }
    }

    private static void answersNought() {
        Check.sentence(PROMISE, "Answers how many bytes the REPLY has, 0 if the REQUEST is not over.");
        MeterBox x = new MeterBox();
        for (int b : new int[] {7, 125, 126, 126, 0, 125, 37, 234, 88}) {
            Check.due("byte " + b, x.request(b), 0);
        }
        Check.due("over", x.request(126), 13);
        MeterBox y = new MeterBox();
        Bench.idle(y, 126);
        Check.due("an escape is a byte of it", Bench.send(y, Bench.frame(0, 5)), 14);
    }
}
