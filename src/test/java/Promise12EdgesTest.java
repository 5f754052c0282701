/** The edges of promise 12: read. */
public final class Promise12EdgesTest {
    private static final String PROMISE = "Promise 12";
    private static final String ALL = "what 0 .. 2 a REGISTER, 3 the CREDIT, 4 HIGHEST";

    public static void main(String[] args) {
        takesWhat();
        readsEach();
        readsWithoutRounding();
        mustBeOn();
        Check.end();
    }

    private static void takesWhat() {
        Check.sentence(PROMISE, ALL);
        Look.outOfRange("what", 0, 4, MeterBox::read);
        Look.withinRange("what", 0, 4, n -> new MeterBox().read(n));
    }

    private static void readsEach() {
        Check.sentence(PROMISE, ALL);
        MeterBox x = new MeterBox();
        x.plan(0, 0, 1, 1);
        x.plan(0, 1, 3, 2);
        Bench.draw(x, 7);
        double[] due = {0.25, 0.5, 1.0, 3.25, 15000.0};
        for (int i = 0; i < due.length; i++) {
            Check.due("read(" + i + ")", x.read(i), due[i]);
        }
        Check.due("CREDIT below 0.0", Bench.opened().read(3), -0.25);
        for (int i = 0; i < due.length; i++) {
            int what = i;
            Look.changes("nothing is changed", Rich::closed, y -> y.read(what));
        }
    }

    private static void readsWithoutRounding() {
        Check.sentence(PROMISE, ALL);
        MeterBox x = new MeterBox();
        x.use(0.001, 0.001, 1);
        Check.due("REGISTER 0", x.read(0), 0.001 * 0.001 / 60000.0);
        Check.due("CREDIT", x.read(3), 5.0 - 0.001 * 0.001 / 60000.0);
        Check.due("HIGHEST", x.read(4), 0.001 * 0.001);
    }

    private static void mustBeOn() {
        Check.sentence("Terms", "IllegalStateException: the METER is OFF (where it must be ON)");
        for (int what = 0; what <= 4; what++) {
            int w = what;
            for (var made : Rich.allOff()) {
                Look.refused("read(" + w + ")", IllegalStateException.class, made, x -> x.read(w));
            }
        }
        for (var made : Rich.allOff()) {
            Look.refused("a number out of range comes first", IllegalArgumentException.class, made, x -> x.read(5));
        }
    }
}
