import java.util.List;
import java.util.function.Supplier;

/** Meters in which nothing is as at first, so that a change of anything shows. */
final class Rich {
    private Rich() {
    }

    static List<Supplier<MeterBox>> all() {
        return List.of(Rich::closed, Rich::open, Rich::helped, Rich::worn, Rich::off, Rich::torn);
    }

    static List<Supplier<MeterBox>> allOn() {
        return List.of(Rich::closed, Rich::open, Rich::helped, Rich::worn);
    }

    static List<Supplier<MeterBox>> allOff() {
        return List.of(Rich::off, Rich::torn);
    }

    /** TIME 122, CREDIT 4.3125, REGISTERS 0.25, LAST 7, two EVENTS, five SAVINGS, PRICES 2.0, 0.5 and 0.25. */
    private static MeterBox begun() {
        MeterBox x = new MeterBox();
        x.plan(0, 0, 60, 1);
        x.plan(0, 2, 120, 2);
        x.plan(1, 1, 0, 2);
        x.plan(1, 3, 600, 1);
        x.token(Bench.tokenOf(Bench.PRICES, 5, 3 * 2000));
        x.token(Bench.tokenOf(Bench.PRICES, 6, 3 * 500 + 1));
        x.token(Bench.tokenOf(Bench.PRICES, 7, 3 * 250 + 2));
        Bench.idle(x, 59);
        Bench.draw(x, 2);
        Bench.idle(x, 59);
        Bench.draw(x, 1);
        x.use(300.0, 0.0, 1);
        Check.refused("a wrong token", UnsupportedOperationException.class, () -> x.token(0));
        x.save();
        x.save();
        return x;
    }

    /** A REPLY of WEAR, a REQUEST begun with a 0. */
    private static MeterBox asked(MeterBox x) {
        Bench.ask(x, 1, 0);
        Bench.send(x, 126, 0);
        return x;
    }

    /** The same, and a CUT of 3. */
    private static MeterBox ended(MeterBox x) {
        asked(x);
        x.cut(3);
        return x;
    }

    private static MeterBox cutOff() {
        MeterBox x = begun();
        Bench.idle(x, 238);
        Bench.draw(x, 70);
        return x;
    }

    /** ON, the RELAY closed. */
    static MeterBox closed() {
        return ended(begun());
    }

    /** The same, but no CUT is set. */
    static MeterBox uncut() {
        return asked(begun());
    }

    /** What a SAVING changes there, all but WEAR, of which there is no more: rows for Look. */
    static String[] savedRows(int last, String... more) {
        long[] w = {6, 488 * 1000000000000L + 4312, 250, 250, last * 1000000000L + 250};
        String[] rows = java.util.Arrays.copyOf(more, more.length + 6);
        for (int i = 0; i < 5; i++) {
            rows[more.length + i] = "flash(5, " + i + ") = " + w[i];
        }
        rows[more.length + 5] = "flash(5, 5) = "
            + (7 * w[0] + 11 * w[1] + 13 * w[2] + 17 * w[3] + 19 * w[4] + 1);
        return rows;
    }

    /** The meter closed, and a 125 has come in the REQUEST. */
    static MeterBox escaped() {
        MeterBox x = closed();
        x.request(125);
        return x;
    }

    /** ON, TIME 430, CREDIT -0.0625, the RELAY open by a third EVENT. */
    static MeterBox open() {
        return ended(cutOff());
    }

    /** The same, but EMERGENCY is used, and the RELAY closed by a fourth EVENT. */
    static MeterBox helped() {
        MeterBox x = cutOff();
        x.emergency();
        return ended(x);
    }

    /** ON, all SECTORS WORN OUT, SLOT 11 the latest, the RELAY open, three EVENTS. */
    static MeterBox worn() {
        MeterBox x = cutOff();
        for (int i = 5; i < 48; i++) {
            x.save();
        }
        return ended(x);
    }

    /** OFF by power. */
    static MeterBox off() {
        MeterBox x = closed();
        x.power(false);
        return x;
    }

    /** OFF by a cut, which leaves two EVENTS; another CUT of 3 is set. */
    static MeterBox torn() {
        MeterBox x = ended(begun());
        x.cut(2);
        Check.refused("a cut", ArithmeticException.class, x::save);
        x.cut(3);
        return x;
    }
}
