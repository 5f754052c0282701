/** Promise 1. */
public final class NewObjectTest {
    public static void main(String[] args) {
        MeterBox x = new MeterBox();
        for (int i = 0; i < 5; i++) {
            Check.due("read(" + i + ")", x.read(i), i == 3 ? 5.0 : 0.0);
        }
        for (int i = 0; i < 3; i++) {
            Check.due("price(" + i + ")", x.price(i), 1.0);
        }
        int[] counts = {1, 0, 0, 0, 0, 0, 0, 1, 0, 0, 0};
        for (int i = 0; i < counts.length; i++) {
            Check.due("count(" + i + ")", x.count(i), counts[i]);
        }
        for (int slot = 0; slot < 12; slot++) {
            for (int word = 0; word < 6; word++) {
                Check.due("flash(" + slot + ", " + word + ")", x.flash(slot, word), -1);
            }
        }
        Check.refused("reply(0)", IndexOutOfBoundsException.class, () -> x.reply(0));
        Check.due("a byte outside of a request", x.request(1), 0);
        Check.due("the first flag", x.request(126), 0);
        Check.due("no cut", x.cut(0), -1);
        Check.due("all entries are none", x.plan(0, 0, 0, -1), 0);
        Check.due("all entries are none", x.plan(1, 0, 0, -1), 0);
        twoObjectsShareNothing();
        Check.end();
    }

    private static void twoObjectsShareNothing() {
        MeterBox used = new MeterBox();
        used.plan(0, 0, 0, 2);
        Bench.draw(used, 3);
        used.token(Bench.tokenOf(Bench.PRICES, 1, 3));
        MeterBox fresh = new MeterBox();
        Check.due("another object's tariff", fresh.count(10), 0);
        Check.due("another object's price", fresh.price(0), 1.0);
        Check.due("another object's credit", fresh.read(3), 5.0);
        Check.due("another object's flash", fresh.flash(0, 0), -1);
        Check.due("another object's wear", fresh.count(2), 0);
    }
}
