/** The edges of Terms: EVENTS. */
public final class TermsEventsEdgesTest {
    private static final String TERMS = "Terms";

    public static void main(String[] args) {
        keepsTwelve();
        dropsTheOldest();
        dropsForEveryKind();
        writesKindAndTime();
        takesTimeModulo();
        Check.end();
    }

    private static MeterBox withEvents(int number) {
        MeterBox x = new MeterBox();
        for (int i = 0; i < number; i++) {
            x.use(300.0, 0.0, 1);
        }
        return x;
    }

    private static void keepsTwelve() {
        Check.sentence(TERMS, "EVENTS: at most 12 are kept");
        int[][] due = {{0, 0}, {1, 1}, {11, 11}, {12, 12}, {13, 12}, {14, 12}, {25, 12}};
        for (int[] row : due) {
            MeterBox x = withEvents(row[0]);
            Check.due("after " + row[0], x.count(1), row[1]);
            if (row[1] > 0) {
                Bench.event(x, row[1] - 1);
            }
            Check.refused("behind the last of " + row[0], UnsupportedOperationException.class,
                () -> Bench.event(x, row[1]));
        }
    }

    private static void dropsTheOldest() {
        Check.sentence(TERMS, "the oldest is dropped for one more");
        for (int number : new int[] {12, 13, 14, 24, 25}) {
            MeterBox x = withEvents(number);
            for (int i = 0; i < 12; i++) {
                Check.due("EVENT " + i + " of " + number, Bench.event(x, i), 20000 + number - 12 + i);
            }
        }
    }

    private static void dropsForEveryKind() {
        Check.sentence(TERMS, "the oldest is dropped for one more");
        MeterBox x = new MeterBox();
        Bench.idle(x, 360);
        Bench.draw(x, 20);
        for (int i = 0; i < 12; i++) {
            Check.refused("a wrong token", UnsupportedOperationException.class, () -> x.token(0));
        }
        Bench.draw(x, 1);
        Check.due("EVENT 1", Bench.event(x, 11), 10381);
        x.emergency();
        Check.due("EVENT 5", Bench.event(x, 11), 50381);
        Check.due("EVENT 1 before it", Bench.event(x, 10), 10381);
        Check.due("EVENT 4 before them", Bench.event(x, 9), 40380);
        Check.due("twelve", x.count(1), 12);
        MeterBox y = Bench.wornOut();
        for (int i = 0; i < 12; i++) {
            y.use(300.0, 0.0, 1);
        }
        Bench.idle(y, 1428);
        Check.due("EVENT 3", Bench.event(y, 11), 31440);
        Check.due("the oldest", Bench.event(y, 0), 20001);
        Check.due("twelve", y.count(1), 12);
    }

    private static void writesKindAndTime() {
        Check.sentence(TERMS, "10000 times its kind plus TIME modulo 10000");
        MeterBox x = new MeterBox();
        x.use(300.0, 0.0, 1);
        Check.refused("a wrong token", UnsupportedOperationException.class, () -> x.token(0));
        Bench.idle(x, 358);
        x.use(400.0, 100.0, 8);
        x.emergency();
        long[] due = {20000, 40001, 20359, 10367, 50367};
        for (int i = 0; i < due.length; i++) {
            Check.due("EVENT " + i, Bench.event(x, i), due[i]);
        }
        Check.due("five", x.count(1), due.length);
    }

    private static void takesTimeModulo() {
        Check.sentence(TERMS, "10000 times its kind plus TIME modulo 10000");
        MeterBox x = new MeterBox();
        Bench.idle(x, 9998);
        long[] due = {29998, 29999, 20000, 20001};
        for (int i = 0; i < due.length; i++) {
            x.use(300.0, 0.0, 1);
            Check.due("TIME " + (9998 + i), Bench.event(x, i), due[i]);
        }
        Bench.idle(x, 9997);
        x.use(300.0, 0.0, 1);
        x.use(300.0, 0.0, 1);
        Check.due("TIME 19999", Bench.event(x, 4), 29999);
        Check.due("TIME 20000", Bench.event(x, 5), 20000);
    }
}
