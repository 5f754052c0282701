import java.util.Random;
import java.util.function.Supplier;

/** All promises at once: the class and the model answer the same to whatever is called. */
public final class ModelTest {
    private static final int RUNS = 1500;
    private static final int MOST_CALLS = 512;
    // The rest is for a look at everything in the end; the EVENTS take far more calls than the FLASH.
    private static final int CALLS_BEFORE_FLASH = 360;
    private static final int CALLS_BEFORE_EVENTS = 190;
    private static final int MOST_TOLD = 5;

    private final Random random;
    private final int run;
    private final MeterBox meter = new MeterBox();
    private final Model model = new Model();
    // Each run has its own mixture of calls, so that some runs wear the flash out and some do not.
    private final int[] weights = new int[12];
    private final double strongest;
    private final double usual;
    private int calls;
    private int number;
    private int told;

    private ModelTest(int run) {
        this.run = run;
        random = new Random(20261116L * 1000 + run);
        for (int i = 0; i < weights.length; i++) {
            weights[i] = random.nextInt(4) == 0 ? 0 : 1 + random.nextInt(8);
        }
        weights[0] += random.nextInt(24);
        strongest = random.nextBoolean() ? 100.0 : 4.0;
        usual = random.nextBoolean() ? 230.0 : 300.0;
        if (random.nextInt(3) == 0) {
            // Without OFF the EVENTS become more than can be kept.
            weights[5] = 0;
            weights[6] = 0;
        }
    }

    public static void main(String[] args) {
        for (int run = 0; run < RUNS && !Check.hasFailed(); run++) {
            new ModelTest(run).callAll();
        }
        Check.end();
    }

    private void callAll() {
        boolean eventsLast = run % 2 == 1;
        int enough = eventsLast ? CALLS_BEFORE_EVENTS : CALLS_BEFORE_FLASH;
        while (calls < enough && told < MOST_TOLD) {
            callAny(pickByWeight());
            if (model.count(0) == 0 && random.nextInt(4) == 0) {
                power(true);
            }
        }
        lookAtState();
        if (eventsLast) {
            lookAtEvents();
        } else {
            lookAtFlash();
        }
    }

    private void lookAtState() {
        for (int what = -1; what <= 11; what++) {
            count(what);
        }
        for (int value = -1; value <= 5; value++) {
            read(value);
        }
        for (int tariff = -1; tariff <= 3; tariff++) {
            price(tariff);
        }
        lookAtReply();
    }

    private void lookAtFlash() {
        for (int i = 0; i < 72; i++) {
            flash(i / 6, i % 6);
        }
    }

    private void lookAtEvents() {
        int kept = model.count(1);
        for (int i = 0; i <= kept; i++) {
            send(Bench.frame(2, i));
            lookAtReply();
        }
    }

    private int pickByWeight() {
        int sum = 0;
        for (int weight : weights) {
            sum += weight;
        }
        int left = random.nextInt(sum + 1);
        int kind = 0;
        while (kind < weights.length - 1 && left >= weights[kind]) {
            left -= weights[kind];
            kind++;
        }
        return kind;
    }

    private void callAny(int kind) {
        switch (kind) {
            case 0 -> use();
            case 1 -> plan(about(0, 1), about(0, 3), oneOf(0, 359, 360, 720, 1080, about(0, 1439)), about(-1, 2));
            case 2 -> token();
            case 3 -> same("emergency()", meter::emergency, model::emergency);
            case 4 -> same("save()", meter::save, model::save);
            case 5 -> cut(about(0, 5));
            case 6 -> power(random.nextInt(3) > 0);
            case 7 -> sendWhole();
            case 8 -> request(oneOf(126, 125, about(0, 255)));
            case 9 -> lookAtReply();
            case 10 -> flash(about(0, 11), about(0, 5));
            default -> lookAtSome();
        }
    }

    private int about(int least, int greatest) {
        return switch (random.nextInt(40)) {
            case 0 -> least - 1;
            case 1 -> greatest + 1;
            case 2 -> random.nextInt();
            case 3, 4 -> least;
            case 5, 6 -> greatest;
            default -> least + random.nextInt(greatest - least + 1);
        };
    }

    private int oneOf(int... some) {
        return some[random.nextInt(some.length)];
    }

    private double oneOf(double... some) {
        return some[random.nextInt(some.length)];
    }

    /** What the call answers, or the name of what it throws. */
    private static String answerOf(Supplier<Object> call) {
        try {
            return String.valueOf(call.get());
        } catch (RuntimeException e) {
            return "throws." + e.getClass().getSimpleName();
        }
    }

    private void same(String text, Supplier<Object> ofMeter, Supplier<Object> ofModel) {
        if (calls == MOST_CALLS) {
            return;
        }
        calls++;
        String got = answerOf(ofMeter);
        String want = answerOf(ofModel);
        if (!got.equals(want)) {
            told++;
            Check.tell("run " + run + ", call " + calls + ", " + text + " answered " + got + ", the model " + want);
        }
    }

    private void use() {
        double volts = random.nextInt(4) > 0 ? usual
            : oneOf(0.0, -0.0, 260.0, 260.00000000000006, 400.0, 400.00000000000006, -0.1, Double.NaN, 400.0 * random.nextDouble());
        double amperes = random.nextInt(12) > 0 ? strongest * random.nextDouble()
            : oneOf(0.0, 100.0, 100.00000000000001, -1e-300, Double.POSITIVE_INFINITY);
        int minutes = random.nextBoolean() ? 300 : about(1, 300);
        same("use(" + volts + ", " + amperes + ", " + minutes + ")",
            () -> meter.use(volts, amperes, minutes), () -> model.use(volts, amperes, minutes));
    }

    private void plan(int day, int entry, int minute, int tariff) {
        same("plan(" + day + ", " + entry + ", " + minute + ", " + tariff + ")",
            () -> meter.plan(day, entry, minute, tariff), () -> model.plan(day, entry, minute, tariff));
    }

    private void token() {
        int kind = random.nextInt(12) == 0 ? 3 : oneOf(0, 0, 1, 2);
        number = Math.min(number + 1, 16383);
        int some = random.nextInt(6) == 0 ? Math.max(0, number - random.nextInt(4)) : number;
        int x = oneOf(0, 1, 2, 100, 65535, random.nextInt(500), random.nextInt(500), random.nextInt(65536));
        long good = Bench.tokenOf(kind, some, x);
        long token = switch (random.nextInt(20)) {
            case 0 -> good ^ 1L << random.nextInt(40);
            case 1 -> oneOf(-1, 0, 1);
            case 2 -> 1099511627775L + random.nextInt(2);
            default -> good;
        };
        same("token(" + token + ")", () -> meter.token(token), () -> model.token(token));
    }

    private void cut(int words) {
        same("cut(" + words + ")", () -> meter.cut(words), () -> model.cut(words));
    }

    private void power(boolean on) {
        same("power(" + on + ")", () -> meter.power(on), () -> model.power(on));
    }

    private void request(int b) {
        same("request(" + b + ")", () -> meter.request(b), () -> model.request(b));
    }

    private void sendWhole() {
        int[] bytes = new int[random.nextInt(8) == 0 ? 1 + random.nextInt(12) : 2];
        for (int i = 0; i < bytes.length; i++) {
            bytes[i] = random.nextInt(12) == 0 ? oneOf(125, 126, random.nextInt(256)) : random.nextInt(7);
        }
        bytes[0] = random.nextInt(12) == 0 ? bytes[0] : random.nextInt(3);
        int[] frame = Bench.frame(bytes);
        if (random.nextInt(12) == 0) {
            frame[1 + random.nextInt(frame.length - 1)] ^= 1 << random.nextInt(8);
        }
        send(frame);
        if (random.nextInt(4) == 0) {
            lookAtReply();
        }
    }

    private void send(int... bytes) {
        for (int b : bytes) {
            request(b);
        }
    }

    private void lookAtReply() {
        for (int i = -1; i < 15; i++) {
            int at = i;
            same("reply(" + at + ")", () -> meter.reply(at), () -> model.reply(at));
        }
    }

    private void flash(int slot, int word) {
        same("flash(" + slot + ", " + word + ")", () -> meter.flash(slot, word), () -> model.flash(slot, word));
    }

    private void lookAtSome() {
        count(about(0, 10));
        read(about(0, 4));
        price(about(0, 2));
    }

    private void count(int what) {
        same("count(" + what + ")", () -> meter.count(what), () -> model.count(what));
    }

    private void read(int what) {
        same("read(" + what + ")", () -> meter.read(what), () -> model.read(what));
    }

    private void price(int tariff) {
        same("price(" + tariff + ")", () -> meter.price(tariff), () -> model.price(tariff));
    }
}
