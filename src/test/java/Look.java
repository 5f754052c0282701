import java.util.ArrayList;
import java.util.HashMap;
import java.util.LinkedHashMap;
import java.util.List;
import java.util.Map;
import java.util.function.Consumer;
import java.util.function.IntConsumer;
import java.util.function.Supplier;

/**
 * All that can be seen of a meter, by name. Looking changes a meter, so each part of the look is
 * taken at a new one, made by the same calls.
 */
final class Look {
    interface Question {
        Object ask();
    }

    interface NumberCall {
        void go(MeterBox x, int number);
    }

    // Each ends a request that has begun with 126 and 0, the second one if 125 came behind these.
    private static final int[] TAIL = {5, 234, 88, 126, 0, 5, 234, 88, 126};
    private static final int[] ESCAPED_TAIL = {37, 234, 88, 126, 0, 5, 234, 88, 126};

    private Look() {
    }

    /** The step changes what the rows say ("name = value"), as seen at once, and nothing else. */
    static void changes(String what, Supplier<MeterBox> made, Consumer<MeterBox> step, String... rows) {
        compare(what, now(made), now(stepped(made, step)), rows);
    }

    /** The call throws this very class, and changes what the rows say, nothing else now or later. */
    static void refused(String what, Class<?> want, Supplier<MeterBox> made, Consumer<MeterBox> call,
            String... rows) {
        Consumer<MeterBox> step = x -> Check.refused(what, want, () -> call.accept(x));
        compare(what, whole(made), whole(stepped(made, step)), rows);
    }

    /** A number below the least, above the greatest, or at the ends of int is refused before all else. */
    static void outOfRange(String what, int least, int greatest, NumberCall call) {
        for (int number : new int[] {least - 1, greatest + 1, Integer.MIN_VALUE, Integer.MAX_VALUE}) {
            // A class that takes the first wrong number might be busy for hours with the greatest int.
            if (Check.hasFailed()) {
                return;
            }
            for (Supplier<MeterBox> made : Rich.all()) {
                refused(what + " " + number, IllegalArgumentException.class, made, x -> call.go(x, number));
            }
        }
    }

    /** Both ends and each number between them are taken. */
    static void withinRange(String what, int least, int greatest, IntConsumer call) {
        for (int number = least; number <= greatest; number++) {
            int n = number;
            Check.refused(what + " " + n, null, () -> call.accept(n));
        }
    }

    static String answer(Question question) {
        try {
            return String.valueOf(question.ask());
        } catch (RuntimeException e) {
            return e.getClass().getSimpleName();
        }
    }

    private static Supplier<MeterBox> stepped(Supplier<MeterBox> made, Consumer<MeterBox> step) {
        return () -> {
            MeterBox x = made.get();
            step.accept(x);
            return x;
        };
    }

    private static void compare(String what, Map<String, String> before, Map<String, String> after, String[] rows) {
        Map<String, String> due = new HashMap<>(before);
        for (String row : rows) {
            String name = row.substring(0, row.indexOf(" = "));
            String value = row.substring(row.indexOf(" = ") + 3);
            if (!before.containsKey(name) || before.get(name).equals(value)) {
                Check.tell("the test asks for no change by: " + row);
            }
            due.put(name, value);
        }
        for (Map.Entry<String, String> seen : after.entrySet()) {
            String want = due.get(seen.getKey());
            if (!seen.getValue().equals(want)) {
                Check.tell(what + ": then " + seen.getKey() + " is " + seen.getValue() + ", due is " + want);
            }
        }
    }

    private static Map<String, String> now(Supplier<MeterBox> made) {
        Map<String, String> seen = new LinkedHashMap<>();
        lookStill(made.get(), seen);
        lookAtEvents(made.get(), seen);
        lookAtLine(made.get(), "line", TAIL, seen);
        lookAtLine(made.get(), "escaped line", ESCAPED_TAIL, seen);
        seen.put("CUT", answer(() -> made.get().cut(0)));
        return seen;
    }

    private static Map<String, String> whole(Supplier<MeterBox> made) {
        Map<String, String> seen = now(made);
        lookAtPlans(made.get(), seen);
        lookAtSavings(made.get(), seen);
        return seen;
    }

    private static void lookStill(MeterBox x, Map<String, String> seen) {
        for (int i = 0; i <= 10; i++) {
            int what = i;
            seen.put("count(" + i + ")", answer(() -> x.count(what)));
        }
        for (int i = 0; i <= 4; i++) {
            int what = i;
            seen.put("read(" + i + ")", answer(() -> x.read(what)));
        }
        for (int i = 0; i <= 2; i++) {
            int tariff = i;
            seen.put("price(" + i + ")", answer(() -> x.price(tariff)));
        }
        for (int i = 0; i < 72; i++) {
            int at = i;
            seen.put("flash(" + i / 6 + ", " + i % 6 + ")", answer(() -> x.flash(at / 6, at % 6)));
        }
        for (int i = 0; i <= 24; i++) {
            int at = i;
            seen.put("reply(" + i + ")", answer(() -> x.reply(at)));
        }
    }

    private static void lookAtEvents(MeterBox x, Map<String, String> seen) {
        // Whatever has begun: the first flag ends or begins a request, the second leaves an empty one.
        for (int b : new int[] {0, 0, 126, 126}) {
            answer(() -> x.request(b));
        }
        for (int i = 0; i < 12; i++) {
            int at = i;
            seen.put("EVENT " + i, answer(() -> Bench.event(x, at)));
        }
    }

    private static void lookAtLine(MeterBox x, String name, int[] bytes, Map<String, String> seen) {
        List<String> answers = new ArrayList<>();
        for (int b : bytes) {
            answers.add(answer(() -> x.request(b)));
        }
        seen.put(name, answers.toString());
    }

    private static void lookAtPlans(MeterBox x, Map<String, String> seen) {
        // A cut that is set would come between; it is spent by a saving.
        answer(() -> x.power(true));
        answer(x::save);
        answer(() -> x.power(true));
        Bench.idle(x, 1440 - x.count(6) % 1440);
        lookThroughADay(x, "of working days", seen);
        for (int i = 0; i < 7 && x.count(6) / 1440 % 7 < 5; i++) {
            Bench.idle(x, 1440);
        }
        lookThroughADay(x, "of other days", seen);
        for (int i = 0; i < 8; i++) {
            int at = i;
            seen.put("ENTRIES without " + i, answer(() -> x.plan(at / 4, at % 4, 0, -1)));
        }
    }

    private static void lookThroughADay(MeterBox x, String which, Map<String, String> seen) {
        for (int hour = 0; hour < 24; hour++) {
            seen.put("TARIFF at hour " + hour + " " + which, answer(() -> x.count(10)));
            Bench.idle(x, 60);
        }
    }

    private static void lookAtSavings(MeterBox x, Map<String, String> seen) {
        for (int i = 0; i < 5; i++) {
            seen.put("saving " + i, answer(x::save));
            seen.put("loading " + i, answer(() -> x.power(true)));
            for (int slot = 0; slot < 12; slot++) {
                int at = slot;
                seen.put("word 0 of " + slot + " after saving " + i, answer(() -> x.flash(at, 0)));
            }
            for (int s = 0; s < 4; s++) {
                int sector = s;
                seen.put("WEAR of " + s + " after saving " + i, answer(() -> x.count(2 + sector)));
            }
        }
    }
}
