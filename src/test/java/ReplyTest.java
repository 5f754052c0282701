/** Promise 10. */
public final class ReplyTest {
    public static void main(String[] args) {
        MeterBox x = new MeterBox();
        for (int i : new int[] {-1, 0, 1, Integer.MIN_VALUE, Integer.MAX_VALUE}) {
            Check.refused("no reply", IndexOutOfBoundsException.class, () -> x.reply(i));
        }
        Check.due("READ CREDIT", Bench.ask(x, 0, 3), 5000);
        int[] due = {126, 128, 0, 0, 0, 0, 0, 0, 19, 136};
        for (int i = 0; i < due.length; i++) {
            Check.due("reply(" + i + ")", x.reply(i), due[i]);
        }
        Check.due("the last", x.reply(12), 126);
        for (int i : new int[] {-1, 13, 23, 24, Integer.MIN_VALUE, Integer.MAX_VALUE}) {
            Check.refused("reply(" + i + ")", IndexOutOfBoundsException.class, () -> x.reply(i));
        }
        Bench.send(x, 126, 1, 2);
        Check.due("stays while a request comes", x.reply(8), 19);
        Bench.send(x, 141, 53, 126);
        Check.due("the latest", x.reply(1), 129);
        Check.due("the latest", x.reply(8), 0);
        shrinksAgain();
        Check.end();
    }

    private static void shrinksAgain() {
        MeterBox x = new MeterBox();
        Bench.idle(x, 126);
        int longer = Bench.send(x, Bench.frame(0, 5));
        Check.due("longer", longer >= 14 ? 1 : 0, 1);
        Check.due("its last", x.reply(longer - 1), 126);
        Check.due("shorter", Bench.send(x, Bench.frame(1, 2)), 13);
        Check.refused("behind its end", IndexOutOfBoundsException.class, () -> x.reply(13));
    }
}
