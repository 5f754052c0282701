/** The edges of promise 10: reply. */
public final class Promise10EdgesTest {
    private static final String PROMISE = "Promise 10";
    private static final String NONE = "there is none: IndexOutOfBoundsException";
    private static final Class<?> INDEX = IndexOutOfBoundsException.class;

    public static void main(String[] args) {
        hasNoneAtFirst();
        hasBytesFromTo();
        isTheLatest();
        staysTillTheNext();
        changesNothing();
        Check.end();
    }

    private static void hasNoneAtFirst() {
        Check.sentence(PROMISE, NONE);
        for (int i : new int[] {-1, 0, 1, 12, Integer.MIN_VALUE, Integer.MAX_VALUE}) {
            Look.refused("reply(" + i + ")", INDEX, MeterBox::new, x -> x.reply(i));
        }
        MeterBox x = new MeterBox();
        Bench.send(x, 126, 0, 5, 234, 88);
        Check.refused("a REQUEST that is not over", INDEX, () -> x.reply(0));
        MeterBox y = new MeterBox();
        Check.refused("refused", ArithmeticException.class, () -> Bench.send(y, 126, 0, 5, 234, 89, 126));
        Check.refused("a REQUEST that was refused", INDEX, () -> y.reply(0));
        y.power(false);
        Check.refused("OFF", INDEX, () -> y.reply(0));
    }

    private static void hasBytesFromTo() {
        Check.sentence(PROMISE, "Byte i of the latest REPLY; there is none: IndexOutOfBoundsException.");
        // TIME 0, 126, and one of which both bytes must be escaped.
        for (int time : new int[] {0, 126, 125 * 256 + 126}) {
            MeterBox x = new MeterBox();
            Bench.idle(x, time);
            int length = Bench.send(x, Bench.frame(0, 5));
            int[] due = Bench.frame(128, 0, 0, 0, 0, 0, 0, time / 256, time % 256);
            Check.due("its length", length, due.length);
            for (int i = 0; i < length; i++) {
                Check.due("reply(" + i + ")", x.reply(i), due[i]);
            }
            Check.due("the first", x.reply(0), 126);
            Check.due("the last", x.reply(length - 1), 126);
            for (int i : new int[] {-1, length, length + 1, 24, 25, 255, Integer.MIN_VALUE, Integer.MAX_VALUE}) {
                Check.refused("reply(" + i + ") of " + length, INDEX, () -> x.reply(i));
            }
        }
    }

    private static void isTheLatest() {
        Check.sentence(PROMISE, "Byte i of the latest REPLY");
        MeterBox x = new MeterBox();
        Bench.idle(x, 126);
        Check.due("the first is longer", Bench.send(x, Bench.frame(0, 5)), 14);
        Check.due("its command", x.reply(1), 128);
        Check.due("the second is shorter", Bench.send(x, Bench.frame(1, 2)), 13);
        Check.due("its command", x.reply(1), 129);
        Check.refused("nothing of the first is left", INDEX, () -> x.reply(13));
        Check.due("the third is longer again", Bench.send(x, Bench.frame(0, 5)), 14);
        Check.due("its end", x.reply(13), 126);
    }

    private static void staysTillTheNext() {
        Check.sentence(PROMISE, "Byte i of the latest REPLY");
        MeterBox x = new MeterBox();
        Bench.ask(x, 0, 3);
        Bench.draw(x, 4);
        Check.due("the CREDIT as it was", x.reply(8) * 256 + x.reply(9), 5000);
        Bench.send(x, 126, 1, 2, 141, 53);
        Check.due("while another comes", x.reply(1), 128);
        x.request(126);
        Check.due("when it is over", x.reply(1), 129);
    }

    private static void changesNothing() {
        Check.sentence(PROMISE, "Byte i of the latest REPLY");
        for (int i = 0; i < 13; i++) {
            int at = i;
            Look.changes("reply(" + i + ")", Rich::closed, x -> x.reply(at));
        }
        Look.changes("all of it", Rich::closed, x -> {
            int i = 0;
            do {
                i++;
            } while (x.reply(i) != 126);
        });
        Look.changes("within an escape", Rich::escaped, x -> x.reply(3));
        Look.changes("OFF", Rich::off, x -> x.reply(3));
        for (var made : Rich.all()) {
            Look.refused("reply(-1)", INDEX, made, x -> x.reply(-1));
            Look.refused("reply(24)", INDEX, made, x -> x.reply(24));
        }
    }
}
