import java.util.Arrays;
import java.util.NoSuchElementException;

/** A prepayment meter: measuring, tariffs, credit, tokens, a relay, flash and framed reading out. */
public final class MeterBox {
    private static final int NONE = -1;
    private static final int MINUTES_OF_DAY = 1440;
    private static final int TARIFFS = 3;

    private static final int MOST_MINUTES = 300;
    private static final int FIRST_OPENING_MINUTE = 360;
    private static final int LAST_OPENING_MINUTE = 1079;

    private static final int RELAY_OPENED = 1;
    private static final int VOLTAGE_HIGH = 2;
    private static final int NOT_SAVED = 3;
    private static final int TOKEN_REFUSED = 4;
    private static final int RELAY_CLOSED = 5;

    private static final int CREDIT_TOKEN = 0;
    private static final int PRICE_TOKEN = 1;
    private static final int CLEAR_TOKEN = 2;
    private static final long GREATEST_TOKEN = 1099511627775L;
    private static final long TOKEN_MASK = 733007751850L;

    private static final int READ_VALUE = 0;
    private static final int READ_WEAR = 1;
    private static final int READ_EVENT = 2;

    private static final int HIGHEST_VALUE = 4;
    private static final int TIME_VALUE = 5;
    private static final int GREATEST_COUNT = 10;
    private static final int FIRST_COUNT_OF_STATE = 6;

    // Outcomes of a saving beside word 0, which is always above 0.
    private static final int WORN_OUT = 0;
    private static final int TORN = -1;

    private final double[] prices;
    private final Plans plans;
    private final State state;
    private final Events events;
    private final Flash memory;
    private final Line line;
    private boolean on;

    public MeterBox() {
        prices = new double[TARIFFS];
        for (int i = 0; i < TARIFFS; i++) {
            prices[i] = 1.0;
        }
        plans = new Plans();
        state = new State();
        events = new Events();
        memory = new Flash();
        line = new Line();
        on = true;
    }

    public int plan(int day, int entry, int minute, int tariff) throws IllegalArgumentException {
        requireWithin(day, 0, Plans.DAYS - 1);
        requireWithin(entry, 0, Plans.ENTRIES - 1);
        requireWithin(minute, 0, MINUTES_OF_DAY - 1);
        requireWithin(tariff, NONE, TARIFFS - 1);
        plans.put(day, entry, minute, tariff);
        return plans.size(day);
    }

    public int use(double volts, double amperes, int minutes)
            throws IllegalArgumentException, IllegalStateException, ArithmeticException {
        requireUpTo(volts, 400.0);
        requireUpTo(amperes, 100.0);
        requireWithin(minutes, 1, MOST_MINUTES);
        requireOn();
        if (volts > 260.0) {
            note(VOLTAGE_HIGH);
        }
        int closed = 0;
        for (int i = 0; i < minutes; i++) {
            if (!state.relayOpen) {
                closed++;
            }
            passMinute(volts, amperes);
            if (!on) {
                throw new ArithmeticException("power failed at the beginning of a day");
            }
        }
        return closed;
    }

    public int token(long token)
            throws IllegalArgumentException, IllegalStateException, UnsupportedOperationException,
            NoSuchElementException, ArithmeticException {
        if (token < 0 || token > GREATEST_TOKEN) {
            throw new IllegalArgumentException("no token");
        }
        requireOn();
        long plain = token ^ TOKEN_MASK;
        long body = plain / 256;
        int kind = (int) (body >> 30);
        int number = (int) (body >> 16) & 16383;
        if (plain % 256 != checkOf(body) || kind > CLEAR_TOKEN) {
            note(TOKEN_REFUSED);
            throw new UnsupportedOperationException("a wrong check or an unknown kind");
        }
        if (number <= state.last) {
            throw new NoSuchElementException("the token is not new");
        }
        putToWork(kind, (int) body & 65535);
        state.last = number;
        keepOrThrow();
        if (state.credit >= 0.0) {
            closeRelay();
        }
        return kind;
    }

    public int emergency() throws IllegalStateException, UnsupportedOperationException {
        requireOn();
        if (state.emergencyUsed || state.credit >= 0.0) {
            throw new UnsupportedOperationException("used before, or not needed");
        }
        state.emergencyUsed = true;
        if (state.credit >= -2.0) {
            closeRelay();
        }
        return state.relayOpen ? 0 : 1;
    }

    public int save() throws IllegalStateException, UnsupportedOperationException, ArithmeticException {
        requireOn();
        return keepOrThrow();
    }

    public int cut(int words) throws IllegalArgumentException {
        requireWithin(words, 0, Flash.WORDS - 1);
        return memory.setCut(words);
    }

    public int power(boolean on) throws IllegalStateException {
        if (this.on == on) {
            throw new IllegalStateException("it is so already");
        }
        this.on = on;
        events.clear();
        line.giveUp();
        if (!on) {
            return -1;
        }
        load();
        return memory.goodSlots();
    }

    public int request(int b)
            throws IllegalArgumentException, IllegalStateException, ArithmeticException,
            UnsupportedOperationException {
        requireWithin(b, 0, 255);
        requireOn();
        if (!line.endsWith(b)) {
            return 0;
        }
        if (!line.isLengthRight()) {
            throw new IllegalStateException("a request has 4 to 12 bytes");
        }
        if (!line.isFcsRight()) {
            throw new ArithmeticException("a wrong FCS");
        }
        int command = line.command();
        int argument = line.argument();
        if (!isKnown(command, argument)) {
            throw new UnsupportedOperationException("an unknown command or argument");
        }
        return line.answer(command, numberFor(command, argument));
    }

    public int reply(int i) throws IndexOutOfBoundsException {
        if (i < 0 || i >= line.answerLength) {
            throw new IndexOutOfBoundsException("the reply has no such byte");
        }
        return line.answerBytes[i];
    }

    public long flash(int slot, int word) throws IllegalArgumentException {
        requireWithin(slot, 0, Flash.SLOTS - 1);
        requireWithin(word, 0, Flash.WORDS - 1);
        return memory.wordAt(slot, word);
    }

    public double read(int what) throws IllegalArgumentException, IllegalStateException {
        requireWithin(what, 0, HIGHEST_VALUE);
        requireOn();
        return state.value(what);
    }

    public double price(int tariff) throws IllegalArgumentException {
        requireWithin(tariff, 0, TARIFFS - 1);
        return prices[tariff];
    }

    public int count(int what) throws IllegalArgumentException, IllegalStateException {
        requireWithin(what, 0, GREATEST_COUNT);
        if (what >= FIRST_COUNT_OF_STATE) {
            requireOn();
            return countOfState(what);
        }
        if (what == 0) {
            return on ? 1 : 0;
        }
        if (what == 1) {
            return events.size;
        }
        return memory.wear[what - 2];
    }

    private int countOfState(int what) {
        switch (what) {
            case 6:
                return state.time;
            case 7:
                return state.relayOpen ? 0 : 1;
            case 8:
                return state.emergencyUsed ? 1 : 0;
            case 9:
                return state.last;
            default:
                return plans.tariffAt(state.time);
        }
    }

    private static void requireWithin(int number, int least, int greatest) {
        if (number < least || number > greatest) {
            throw new IllegalArgumentException("a number out of range");
        }
    }

    private static void requireUpTo(double number, double greatest) {
        // Asked this way round, so that NaN is refused too.
        if (!(number >= 0.0 && number <= greatest)) {
            throw new IllegalArgumentException("a number out of range");
        }
    }

    private void requireOn() {
        if (!on) {
            throw new IllegalStateException("the meter is off");
        }
    }

    private void note(int kind) {
        events.add(kind, state.time);
    }

    private void closeRelay() {
        if (state.relayOpen) {
            state.relayOpen = false;
            note(RELAY_CLOSED);
        }
    }

    private void passMinute(double volts, double amperes) {
        int tariff = plans.tariffAt(state.time);
        state.consume(state.relayOpen ? 0.0 : volts * amperes, tariff, prices[tariff]);
        int minute = state.time % MINUTES_OF_DAY;
        if (!state.relayOpen && state.isCreditSpent()
                && minute >= FIRST_OPENING_MINUTE && minute <= LAST_OPENING_MINUTE) {
            state.relayOpen = true;
            note(RELAY_OPENED);
        }
        if (minute == 0 && keep() == WORN_OUT) {
            note(NOT_SAVED);
        }
    }

    private static int checkOf(long body) {
        long sum = (body >> 24 & 255) + (body >> 16 & 255) + (body >> 8 & 255) + (body & 255);
        return (int) ((sum * 31 + 7) % 256);
    }

    private void putToWork(int kind, int x) {
        if (kind == CREDIT_TOKEN) {
            state.credit += x / 100.0;
            state.emergencyUsed = false;
        } else if (kind == PRICE_TOKEN) {
            prices[x % TARIFFS] = x / TARIFFS / 1000.0;
        } else {
            state.highest = 0.0;
            events.clear();
        }
    }

    /** Saves the state; answers word 0, WORN_OUT or TORN. */
    private int keep() {
        // Erasing may take the slot with the greatest number away.
        long number = memory.nextNumber();
        int slot = memory.makePlace();
        if (slot == NONE) {
            return WORN_OUT;
        }
        state.packInto(memory.draft);
        if (!memory.write(slot, number)) {
            on = false;
            return TORN;
        }
        return (int) number;
    }

    private int keepOrThrow() {
        int outcome = keep();
        if (outcome == WORN_OUT) {
            throw new UnsupportedOperationException("all sectors are worn out");
        }
        if (outcome == TORN) {
            throw new ArithmeticException("power failed while saving");
        }
        return outcome;
    }

    private void load() {
        int slot = memory.newestSlot();
        memory.latest = slot;
        if (slot == NONE) {
            state.begin();
        } else {
            memory.copyToDraft(slot);
            state.unpackFrom(memory.draft);
        }
    }

    private boolean isKnown(int command, int argument) {
        switch (command) {
            case READ_VALUE:
                return argument <= TIME_VALUE;
            case READ_WEAR:
                return argument < Flash.SECTORS;
            case READ_EVENT:
                return argument < events.size;
            default:
                return false;
        }
    }

    private long numberFor(int command, int argument) {
        if (command == READ_WEAR) {
            return memory.wear[argument];
        }
        if (command == READ_EVENT) {
            return events.kept[argument];
        }
        if (argument == TIME_VALUE) {
            return state.time;
        }
        return thousandths(state.value(argument));
    }

    private static long thousandths(double number) {
        return (long) (number * 1000.0);
    }

    /** The tariffs by day and minute. */
    private static final class Plans {
        static final int DAYS = 2;
        static final int ENTRIES = 4;

        private final int[] minutes = new int[DAYS * ENTRIES];
        private final int[] tariffs = new int[DAYS * ENTRIES];

        Plans() {
            Arrays.fill(tariffs, NONE);
        }

        void put(int day, int entry, int minute, int tariff) {
            minutes[day * ENTRIES + entry] = minute;
            tariffs[day * ENTRIES + entry] = tariff;
        }

        int size(int day) {
            int size = 0;
            for (int i = day * ENTRIES; i < (day + 1) * ENTRIES; i++) {
                if (tariffs[i] != NONE) {
                    size++;
                }
            }
            return size;
        }

        int tariffAt(int time) {
            int first = time / MINUTES_OF_DAY % 7 >= 5 ? ENTRIES : 0;
            int minute = time % MINUTES_OF_DAY;
            int best = NONE;
            for (int i = first; i < first + ENTRIES; i++) {
                if (tariffs[i] != NONE && minutes[i] <= minute
                        && (best == NONE || minutes[i] > minutes[best])) {
                    best = i;
                }
            }
            return best == NONE ? 0 : tariffs[best];
        }
    }

    /** What is lost when power fails, but for what was saved. */
    private static final class State {
        private static final long TIME_UNIT = 1000000000000L;
        private static final long LAST_UNIT = 1000000000L;

        private final double[] registers = new double[TARIFFS];
        private int time;
        private double credit;
        private double highest;
        private int last;
        private boolean relayOpen;
        private boolean emergencyUsed;

        State() {
            begin();
        }

        void begin() {
            for (int i = 0; i < TARIFFS; i++) {
                registers[i] = 0.0;
            }
            time = 0;
            credit = 5.0;
            highest = 0.0;
            last = 0;
            relayOpen = false;
            emergencyUsed = false;
        }

        void consume(double watts, int tariff, double price) {
            if (watts > highest) {
                highest = watts;
            }
            double energy = watts / 60000.0;
            registers[tariff] += energy;
            credit -= energy * price;
            time++;
        }

        boolean isCreditSpent() {
            return credit < (emergencyUsed ? -2.0 : 0.0);
        }

        double value(int what) {
            if (what < TARIFFS) {
                return registers[what];
            }
            return what == HIGHEST_VALUE ? highest : credit;
        }

        void packInto(long[] words) {
            long marks = time * 4L + (relayOpen ? 1 : 0) + (emergencyUsed ? 2 : 0);
            words[1] = thousandths(credit) + TIME_UNIT * marks;
            words[2] = thousandths(registers[0]);
            words[3] = thousandths(registers[1]);
            words[4] = thousandths(registers[2]) + LAST_UNIT * last;
        }

        void unpackFrom(long[] words) {
            // The half is for a credit below 0, which would else take one away from the marks.
            long marks = (words[1] + TIME_UNIT / 2) / TIME_UNIT;
            long number = words[4] / LAST_UNIT;
            credit = (words[1] - marks * TIME_UNIT) / 1000.0;
            registers[0] = words[2] / 1000.0;
            registers[1] = words[3] / 1000.0;
            registers[2] = (words[4] - number * LAST_UNIT) / 1000.0;
            time = (int) (marks / 4);
            relayOpen = (marks & 1) != 0;
            emergencyUsed = (marks & 2) != 0;
            last = (int) number;
            highest = 0.0;
        }
    }

    /** The latest events, the oldest first. */
    private static final class Events {
        private static final int MOST = 12;

        private final int[] kept = new int[MOST];
        private int size;

        void add(int kind, int time) {
            if (size == MOST) {
                System.arraycopy(kept, 1, kept, 0, MOST - 1);
                size--;
            }
            kept[size] = 10000 * kind + time % 10000;
            size++;
        }

        void clear() {
            size = 0;
        }
    }

    /** Sectors of slots of words, which wear out and may be torn. */
    private static final class Flash {
        static final int SECTORS = 4;
        static final int SLOTS_OF_SECTOR = 3;
        static final int SLOTS = SECTORS * SLOTS_OF_SECTOR;
        static final int WORDS = 6;
        static final int MOST_WEAR = 4;

        private final long[] words = new long[SLOTS * WORDS];
        private final int[] wear = new int[SECTORS];
        private final long[] draft = new long[WORDS];
        private int latest = NONE;
        private int cutAfter = NONE;

        Flash() {
            Arrays.fill(words, -1L);
        }

        int setCut(int after) {
            int before = cutAfter;
            cutAfter = after;
            return before;
        }

        long wordAt(int slot, int word) {
            return words[slot * WORDS + word];
        }

        void copyToDraft(int slot) {
            System.arraycopy(words, slot * WORDS, draft, 0, WORDS);
        }

        private static long sumOf(long[] row, int at) {
            return 7 * row[at] + 11 * row[at + 1] + 13 * row[at + 2] + 17 * row[at + 3] + 19 * row[at + 4] + 1;
        }

        private boolean isGood(int slot) {
            int at = slot * WORDS;
            return words[at] > 0 && words[at + WORDS - 1] == sumOf(words, at);
        }

        int goodSlots() {
            int good = 0;
            for (int slot = 0; slot < SLOTS; slot++) {
                if (isGood(slot)) {
                    good++;
                }
            }
            return good;
        }

        /** Answers the good slot with the greatest word 0, or NONE. */
        int newestSlot() {
            int newest = NONE;
            for (int slot = 0; slot < SLOTS; slot++) {
                if (isGood(slot) && (newest == NONE || wordAt(slot, 0) > wordAt(newest, 0))) {
                    newest = slot;
                }
            }
            return newest;
        }

        long nextNumber() {
            int newest = newestSlot();
            return newest == NONE ? 1 : wordAt(newest, 0) + 1;
        }

        /** Answers the slot to be written next, its sector erased if it is the first there, or NONE. */
        int makePlace() {
            if (latest != NONE && (latest + 1) % SLOTS_OF_SECTOR != 0) {
                return latest + 1;
            }
            int sector = sectorBehind(latest == NONE ? SECTORS - 1 : latest / SLOTS_OF_SECTOR);
            if (sector == NONE) {
                return NONE;
            }
            erase(sector);
            return sector * SLOTS_OF_SECTOR;
        }

        private int sectorBehind(int sector) {
            for (int step = 1; step <= SECTORS; step++) {
                int next = (sector + step) % SECTORS;
                if (wear[next] < MOST_WEAR) {
                    return next;
                }
            }
            return NONE;
        }

        private void erase(int sector) {
            int from = sector * SLOTS_OF_SECTOR * WORDS;
            for (int i = from; i < from + SLOTS_OF_SECTOR * WORDS; i++) {
                words[i] = -1L;
            }
            wear[sector]++;
        }

        /** Writes the draft under the number; answers whether no cut came between. */
        boolean write(int slot, long number) {
            draft[0] = number;
            draft[WORDS - 1] = sumOf(draft, 0);
            boolean whole = cutAfter == NONE;
            System.arraycopy(draft, 0, words, slot * WORDS, whole ? WORDS : cutAfter);
            latest = slot;
            cutAfter = NONE;
            return whole;
        }
    }

    /** The framed line: a request that comes in byte by byte, and the answer to the latest whole one. */
    private static final class Line {
        private static final int FLAG = 126;
        private static final int ESCAPE = 125;
        private static final int FLIP = 32;
        private static final int FEWEST = 4;
        private static final int MOST = 12;
        private static final int NUMBER_BYTES = 8;
        private static final int ANSWER_BYTES = NUMBER_BYTES + 1;

        private final int[] bytes = new int[MOST];
        private final int[] plainAnswer = new int[ANSWER_BYTES + 2];
        private final int[] answerBytes = new int[2 + 2 * (ANSWER_BYTES + 2)];
        private int length;
        private int answerLength;
        private boolean begun;
        private boolean escaped;

        void giveUp() {
            begun = false;
            escaped = false;
        }

        /** Takes the byte; answers whether it ends a request. */
        boolean endsWith(int b) {
            if (!begun) {
                begun = b == FLAG;
                length = 0;
                return false;
            }
            if (escaped) {
                escaped = false;
                keepByte(b ^ FLIP);
                return false;
            }
            if (b == ESCAPE) {
                escaped = true;
                return false;
            }
            if (b != FLAG) {
                keepByte(b);
                return false;
            }
            begun = length == 0;
            return !begun;
        }

        private void keepByte(int b) {
            if (length < MOST) {
                bytes[length] = b;
            }
            // One above the most is enough to know that there are too many.
            if (length <= MOST) {
                length++;
            }
        }

        boolean isLengthRight() {
            return length >= FEWEST && length <= MOST;
        }

        /** To be asked only where the length is right. */
        boolean isFcsRight() {
            int fcs = fcsOf(bytes, length - 2);
            return bytes[length - 2] == fcs % 256 && bytes[length - 1] == fcs / 256;
        }

        int command() {
            return bytes[0];
        }

        int argument() {
            return bytes[1];
        }

        private static int fcsOf(int[] row, int end) {
            int f = 65535;
            for (int i = 0; i < end; i++) {
                f ^= row[i];
                for (int bit = 0; bit < 8; bit++) {
                    f = f % 2 == 1 ? f / 2 ^ 33800 : f / 2;
                }
            }
            return 65535 - f;
        }

        /** Makes the answer; answers how many bytes it has. */
        int answer(int command, long number) {
            plainAnswer[0] = command + 128;
            for (int i = 1; i <= NUMBER_BYTES; i++) {
                plainAnswer[i] = (int) (number >> 8 * (NUMBER_BYTES - i)) & 255;
            }
            int fcs = fcsOf(plainAnswer, ANSWER_BYTES);
            plainAnswer[ANSWER_BYTES] = fcs % 256;
            plainAnswer[ANSWER_BYTES + 1] = fcs / 256;
            frameAnswer();
            return answerLength;
        }

        private void frameAnswer() {
            answerBytes[0] = FLAG;
            int at = 1;
            for (int i = 0; i < plainAnswer.length; i++) {
                int b = plainAnswer[i];
                if (b == FLAG || b == ESCAPE) {
                    answerBytes[at] = ESCAPE;
                    at++;
                    b ^= FLIP;
                }
                answerBytes[at] = b;
                at++;
            }
            answerBytes[at] = FLAG;
            answerLength = at + 1;
        }
    }
}
