/** Promise 11. */
public final class FlashTest {
    public static void main(String[] args) {
        MeterBox x = new MeterBox();
        int[][] wrong = {{-1, 0}, {12, 0}, {0, -1}, {0, 6}, {Integer.MAX_VALUE, 0}, {0, Integer.MIN_VALUE}};
        for (int[] w : wrong) {
            Check.refused("flash " + w[0] + " " + w[1], IllegalArgumentException.class, () -> x.flash(w[0], w[1]));
        }
        for (int i = 0; i < 12; i++) {
            x.save();
        }
        for (int slot = 0; slot < 12; slot++) {
            Check.due("word 0 of " + slot, x.flash(slot, 0), slot + 1);
            Check.due("word 1 of " + slot, x.flash(slot, 1), 5000);
            Check.due("word 4 of " + slot, x.flash(slot, 4), 0);
            Check.due("word 5 of " + slot, x.flash(slot, 5), 7 * (slot + 1) + 55001);
        }
        x.power(false);
        Check.due("while OFF", x.flash(11, 0), 12);
        Check.refused("while OFF", IllegalArgumentException.class, () -> x.flash(12, 0));
        Check.end();
    }
}
