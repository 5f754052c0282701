/** Promise 12. */
public final class ReadTest {
    public static void main(String[] args) {
        MeterBox x = new MeterBox();
        x.plan(0, 0, 1, 1);
        x.plan(0, 1, 3, 2);
        Bench.draw(x, 6);
        double[] due = {0.25, 0.5, 0.75, 3.5, 15000.0};
        for (int i = 0; i < due.length; i++) {
            Check.due("read(" + i + ")", x.read(i), due[i]);
        }
        for (int what : new int[] {-1, 5, Integer.MIN_VALUE, Integer.MAX_VALUE}) {
            Check.refused("read " + what, IllegalArgumentException.class, () -> x.read(what));
        }
        x.power(false);
        for (int what = 0; what < 5; what++) {
            int w = what;
            Check.refused("OFF", IllegalStateException.class, () -> x.read(w));
        }
        Check.refused("OFF and wrong", IllegalArgumentException.class, () -> x.read(5));
        Check.refused("OFF and wrong", IllegalArgumentException.class, () -> x.read(-1));
        Check.end();
    }
}
