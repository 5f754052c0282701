import java.util.NoSuchElementException;
import java.util.Random;
import java.util.Set;

/** Whatever is called in whatever state: only what the face lists is thrown. */
public final class AnyCallTest {
    private static final Class<?> ARGUMENT = IllegalArgumentException.class;
    private static final Class<?> STATE = IllegalStateException.class;
    private static final Class<?> UNSUPPORTED = UnsupportedOperationException.class;
    private static final Class<?> ARITHMETIC = ArithmeticException.class;

    private static final Random RANDOM = new Random(20261115);

    private static int calls;

    public static void main(String[] args) {
        for (int run = 0; run < 400; run++) {
            MeterBox x = new MeterBox();
            calls = 0;
            // Some of them are several calls, and an object is used for at most 512.
            while (calls < 500) {
                callAny(x);
            }
        }
        Check.end();
    }

    private static int about(int least, int greatest) {
        return least - 1 + RANDOM.nextInt(greatest - least + 3);
    }

    private static int often(int... some) {
        return some[RANDOM.nextInt(some.length)];
    }

    private static void callAny(MeterBox x) {
        calls++;
        switch (RANDOM.nextInt(16)) {
            case 0 -> only("plan", Set.of(ARGUMENT),
                () -> x.plan(about(0, 1), about(0, 3), about(0, 1439), about(-1, 2)));
            case 1, 2, 3 -> only("use", Set.of(ARGUMENT, STATE, ARITHMETIC),
                () -> x.use(about(0, 400), about(0, 100) * 0.1, often(1, 60, 300, 300, about(1, 300))));
            case 4 -> only("token", Set.of(ARGUMENT, STATE, UNSUPPORTED, NoSuchElementException.class, ARITHMETIC),
                () -> x.token(anyToken(x)));
            case 5 -> only("emergency", Set.of(STATE, UNSUPPORTED), x::emergency);
            case 6 -> only("save", Set.of(STATE, UNSUPPORTED, ARITHMETIC), x::save);
            case 7 -> only("cut", Set.of(ARGUMENT), () -> x.cut(about(0, 5)));
            case 8 -> only("power", Set.of(STATE), () -> x.power(RANDOM.nextInt(4) > 0));
            case 9, 10 -> only("request", Set.of(ARGUMENT, STATE, ARITHMETIC, UNSUPPORTED),
                () -> x.request(often(126, 125, 0, 1, 2, about(0, 255))));
            case 11 -> only("a whole request", Set.of(STATE, ARITHMETIC, UNSUPPORTED),
                () -> sendQuietly(x, Bench.frame(RANDOM.nextInt(4), RANDOM.nextInt(13))));
            case 12 -> only("reply", Set.of(IndexOutOfBoundsException.class), () -> x.reply(about(0, 24)));
            case 13 -> only("flash", Set.of(ARGUMENT), () -> x.flash(about(0, 11), about(0, 5)));
            case 14 -> only("read", Set.of(ARGUMENT, STATE), () -> {
                double value = x.read(about(0, 4));
                if (Double.isNaN(value)) {
                    Check.tell("read answered NaN");
                }
            });
            default -> only("count", Set.of(ARGUMENT, STATE), () -> {
                calls++;
                x.price(RANDOM.nextInt(3));
                x.count(about(0, 10));
            });
        }
    }

    private static long anyToken(MeterBox x) {
        if (RANDOM.nextInt(4) == 0) {
            return RANDOM.nextLong() >> often(0, 24, 25);
        }
        calls += 2;
        int last = x.count(0) == 1 ? x.count(9) : 0;
        return Bench.tokenOf(RANDOM.nextInt(4), Math.min(16383, last + RANDOM.nextInt(3)), RANDOM.nextInt(65536));
    }

    private static void sendQuietly(MeterBox x, int[] bytes) {
        for (int b : bytes) {
            calls++;
            x.request(b);
        }
    }

    private static void only(String what, Set<Class<?>> listed, Check.Call call) {
        try {
            call.go();
        } catch (RuntimeException e) {
            if (!listed.contains(e.getClass())) {
                Check.tell(what + " threw " + e);
            }
        }
    }
}
