/** The edges of promise 11: flash. */
public final class Promise11EdgesTest {
    private static final String PROMISE = "Promise 11";

    public static void main(String[] args) {
        takesWords();
        takesSlots();
        hasThreeForEachSector();
        goesOnOrOff();
        Check.end();
    }

    private static void takesWords() {
        Check.sentence(PROMISE, "Word 0 .. 5 of a SLOT 0 .. 11");
        Look.outOfRange("word", 0, 5, (x, n) -> x.flash(0, n));
        Look.outOfRange("word of SLOT 11", 0, 5, (x, n) -> x.flash(11, n));
        Look.withinRange("word", 0, 5, n -> new MeterBox().flash(11, n));
    }

    private static void takesSlots() {
        Check.sentence(PROMISE, "Word 0 .. 5 of a SLOT 0 .. 11");
        Look.outOfRange("slot", 0, 11, (x, n) -> x.flash(n, 0));
        Look.outOfRange("slot, word 5", 0, 11, (x, n) -> x.flash(n, 5));
        Look.withinRange("slot", 0, 11, n -> new MeterBox().flash(n, 5));
    }

    private static void hasThreeForEachSector() {
        Check.sentence(PROMISE, "three for each SECTOR");
        MeterBox x = new MeterBox();
        for (int slot = 0; slot < 12; slot++) {
            x.save();
            long[] due = {slot + 1, 5000, 0, 0, 0, 7 * (slot + 1) + 55001};
            for (int word = 0; word < 6; word++) {
                Check.due("word " + word + " of " + slot, x.flash(slot, word), due[word]);
            }
            for (int s = 0; s < 4; s++) {
                Check.due("WEAR of " + s + " at " + slot, x.count(2 + s), slot / 3 >= s ? 1 : 0);
            }
        }
    }

    private static void goesOnOrOff() {
        Check.sentence(PROMISE, "(ON or OFF.)");
        MeterBox x = Rich.off();
        MeterBox y = Rich.torn();
        for (int slot = 0; slot < 5; slot++) {
            Check.due("OFF by power", x.flash(slot, 0), slot + 1);
            Check.due("OFF by a CUT", y.flash(slot, 0), slot + 1);
        }
        Check.due("the torn one", y.flash(5, 0), 6);
        Look.changes("nothing is changed", Rich::off, z -> z.flash(11, 5));
    }
}
