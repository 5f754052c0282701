import java.math.BigInteger;
import java.util.ArrayList;
import java.util.Arrays;
import java.util.List;
import java.util.NoSuchElementException;

/**
 * The document read a second time, with no thought of thrift; ModelTest compares the class with it.
 * It calls nothing of the class, so that a slip in one is seen in the other; but both take the unclear
 * places of the document alike, as README.md tells.
 */
final class Model {
    private record Entry(int minute, int tariff) {
    }

    private record Place(int sector, int slot) {
    }

    private boolean on = true;
    private int time;
    private double credit;
    private double[] registers;
    private double highest;
    private int last;
    private boolean open;
    private boolean emergencyUsed;

    private final double[] prices = {1.0, 1.0, 1.0};
    private final Entry[][] plans = new Entry[2][4];
    private final List<Integer> events = new ArrayList<>();

    private final long[][][] sectors = new long[4][3][6];
    private final int[] wear = new int[4];
    private Place latest;
    private Integer cut;

    private List<Integer> request;
    private boolean escaped;
    private List<Integer> reply = List.of();

    Model() {
        beAsAtFirst();
        for (long[][] sector : sectors) {
            erase(sector);
        }
    }

    private void beAsAtFirst() {
        time = 0;
        credit = 5.0;
        registers = new double[3];
        highest = 0.0;
        last = 0;
        open = false;
        emergencyUsed = false;
    }

    private static void erase(long[][] sector) {
        for (long[] slot : sector) {
            Arrays.fill(slot, -1L);
        }
    }

    private static void within(boolean isWithin) {
        if (!isWithin) {
            throw new IllegalArgumentException();
        }
    }

    private void mustBeOn() {
        if (!on) {
            throw new IllegalStateException();
        }
    }

    private void event(int kind) {
        events.add(10000 * kind + time % 10000);
        if (events.size() > 12) {
            events.remove(0);
        }
    }

    int plan(int day, int entry, int minute, int tariff) {
        within(day == 0 || day == 1);
        within(entry >= 0 && entry <= 3);
        within(minute >= 0 && minute <= 1439);
        within(tariff >= -1 && tariff <= 2);
        plans[day][entry] = tariff == -1 ? null : new Entry(minute, tariff);
        return (int) Arrays.stream(plans[day]).filter(e -> e != null).count();
    }

    private int tariffNow() {
        int weekday = time / 1440 % 7;
        int minute = time % 1440;
        Entry[] plan = weekday == 5 || weekday == 6 ? plans[1] : plans[0];
        Entry found = new Entry(-1, 0);
        // From behind, so that of the same minute the first one stays.
        for (int i = 3; i >= 0; i--) {
            if (plan[i] != null && plan[i].minute() <= minute && plan[i].minute() >= found.minute()) {
                found = plan[i];
            }
        }
        return found.tariff();
    }

    int use(double volts, double amperes, int minutes) {
        within(volts >= 0.0 && volts <= 400.0);
        within(amperes >= 0.0 && amperes <= 100.0);
        within(minutes >= 1 && minutes <= 300);
        mustBeOn();
        if (volts > 260.0) {
            event(2);
        }
        int closed = 0;
        for (int i = 0; i < minutes; i++) {
            closed += open ? 0 : 1;
            minute(volts, open ? 0.0 : amperes);
        }
        return closed;
    }

    private void minute(double volts, double amperes) {
        double p = volts * amperes;
        highest = p > highest ? p : highest;
        double e = p / 60000.0;
        int tariff = tariffNow();
        registers[tariff] = registers[tariff] + e;
        credit = credit - e * prices[tariff];
        time = time + 1;
        boolean below = emergencyUsed ? credit < -2.0 : credit < 0.0;
        if (below && !open && time % 1440 >= 360 && time % 1440 <= 1079) {
            open = true;
            event(1);
        }
        if (time % 1440 == 0) {
            try {
                saving();
            } catch (UnsupportedOperationException e3) {
                event(3);
            }
        }
    }

    private static long sumOf(long[] slot) {
        // In whole numbers without a bound first, as the document's '(wrapping)' comes last.
        long[] times = {7, 11, 13, 17, 19};
        BigInteger sum = BigInteger.ONE;
        for (int i = 0; i < times.length; i++) {
            sum = sum.add(BigInteger.valueOf(times[i]).multiply(BigInteger.valueOf(slot[i])));
        }
        return sum.longValue();
    }

    private List<Place> goodSlots() {
        List<Place> good = new ArrayList<>();
        for (int sector = 0; sector < 4; sector++) {
            for (int slot = 0; slot < 3; slot++) {
                long[] words = sectors[sector][slot];
                if (words[5] == sumOf(words) && words[0] > 0) {
                    good.add(new Place(sector, slot));
                }
            }
        }
        return good;
    }

    private long[] wordsAt(Place place) {
        return sectors[place.sector()][place.slot()];
    }

    private Place newest() {
        Place newest = null;
        for (Place place : goodSlots()) {
            if (newest == null || wordsAt(place)[0] > wordsAt(newest)[0]) {
                newest = place;
            }
        }
        return newest;
    }

    private Place nextPlace() {
        Place behind = latest == null ? new Place(3, 2) : latest;
        if (behind.slot() < 2) {
            return new Place(behind.sector(), behind.slot() + 1);
        }
        int sector = behind.sector();
        for (int tries = 0; tries < 4; tries++) {
            sector = sector == 3 ? 0 : sector + 1;
            if (wear[sector] < 4) {
                erase(sectors[sector]);
                wear[sector]++;
                return new Place(sector, 0);
            }
        }
        throw new UnsupportedOperationException();
    }

    private long saving() {
        Place newest = newest();
        long[] words = new long[6];
        words[0] = newest == null ? 1 : wordsAt(newest)[0] + 1;
        words[1] = (long) (credit * 1000.0);
        words[2] = (long) (registers[0] * 1000.0);
        words[3] = (long) (registers[1] * 1000.0);
        words[4] = (long) (registers[2] * 1000.0);
        words[4] += 1000000000L * last;
        words[1] += 1000000000000L * (time * 4 + (open ? 1 : 0) + (emergencyUsed ? 2 : 0));
        words[5] = sumOf(words);
        latest = nextPlace();
        for (int i = 0; i < 6; i++) {
            if (cut != null && cut == i) {
                on = false;
                cut = null;
                throw new ArithmeticException();
            }
            wordsAt(latest)[i] = words[i];
        }
        return words[0];
    }

    private void loading() {
        latest = newest();
        beAsAtFirst();
        if (latest == null) {
            return;
        }
        long[] words = wordsAt(latest);
        long added = (words[1] + 500000000000L) / 1000000000000L;
        long tokens = words[4] / 1000000000L;
        credit = (double) (words[1] - added * 1000000000000L) / 1000.0;
        registers[0] = (double) words[2] / 1000.0;
        registers[1] = (double) words[3] / 1000.0;
        registers[2] = (double) (words[4] - tokens * 1000000000L) / 1000.0;
        time = (int) (added / 4);
        open = added % 4 == 1 || added % 4 == 3;
        emergencyUsed = added % 4 >= 2;
        last = (int) tokens;
    }

    int token(long token) {
        within(token >= 0 && token <= 1099511627775L);
        mustBeOn();
        long u = token ^ 733007751850L;
        long body = u / 256;
        long bytes = body % 256 + body / 256 % 256 + body / 65536 % 256 + body / 16777216;
        int kind = (int) (body / 1073741824L);
        int number = (int) (body / 65536 % 16384);
        int x = (int) (body % 65536);
        if (u % 256 != (bytes * 31 + 7) % 256 || kind == 3) {
            event(4);
            throw new UnsupportedOperationException();
        }
        if (number <= last) {
            throw new NoSuchElementException();
        }
        work(kind, x);
        last = number;
        saving();
        if (open && credit >= 0.0) {
            open = false;
            event(5);
        }
        return kind;
    }

    private void work(int kind, int x) {
        if (kind == 0) {
            credit = credit + x / 100.0;
            emergencyUsed = false;
        }
        if (kind == 1) {
            prices[x % 3] = x / 3 / 1000.0;
        }
        if (kind == 2) {
            highest = 0.0;
            events.clear();
        }
    }

    int emergency() {
        mustBeOn();
        if (emergencyUsed || credit >= 0.0) {
            throw new UnsupportedOperationException();
        }
        emergencyUsed = true;
        if (open && !(credit < -2.0)) {
            open = false;
            event(5);
        }
        return open ? 0 : 1;
    }

    int save() {
        mustBeOn();
        return (int) saving();
    }

    int cut(int words) {
        within(words >= 0 && words <= 5);
        int before = cut == null ? -1 : cut;
        cut = words;
        return before;
    }

    int power(boolean wanted) {
        if (wanted == on) {
            throw new IllegalStateException();
        }
        on = wanted;
        events.clear();
        request = null;
        escaped = false;
        if (!on) {
            return -1;
        }
        loading();
        return goodSlots().size();
    }

    int request(int b) {
        within(b >= 0 && b <= 255);
        mustBeOn();
        if (request == null) {
            request = b == 126 ? new ArrayList<>() : null;
        } else if (escaped) {
            request.add(b ^ 32);
            escaped = false;
        } else if (b == 125) {
            escaped = true;
        } else if (b != 126) {
            request.add(b);
        } else if (!request.isEmpty()) {
            List<Integer> whole = request;
            request = null;
            return answer(whole);
        }
        return 0;
    }

    private int answer(List<Integer> whole) {
        int size = whole.size();
        if (size < 4 || size > 12) {
            throw new IllegalStateException();
        }
        if (whole.get(size - 2) + 256 * whole.get(size - 1) != fcsOf(whole.subList(0, size - 2))) {
            throw new ArithmeticException();
        }
        long number = numberOf(whole.get(0), whole.get(1));
        List<Integer> plain = new ArrayList<>();
        plain.add(whole.get(0) + 128);
        for (int shift = 56; shift >= 0; shift -= 8) {
            plain.add((int) (number >>> shift & 255));
        }
        int fcs = fcsOf(plain);
        plain.add(fcs % 256);
        plain.add(fcs / 256);
        reply = framed(plain);
        return reply.size();
    }

    private long numberOf(int command, int argument) {
        if (command == 0 && argument <= 4) {
            return (long) (read(argument) * 1000.0);
        }
        if (command == 0 && argument == 5) {
            return time;
        }
        if (command == 1 && argument <= 3) {
            return wear[argument];
        }
        if (command == 2 && argument < events.size()) {
            return events.get(argument);
        }
        throw new UnsupportedOperationException();
    }

    private static int fcsOf(List<Integer> bytes) {
        int f = 65535;
        for (int b : bytes) {
            f = f ^ b;
            for (int i = 0; i < 8; i++) {
                boolean wasOdd = f % 2 != 0;
                f = f / 2;
                f = wasOdd ? f ^ 33800 : f;
            }
        }
        return 65535 - f;
    }

    private static List<Integer> framed(List<Integer> plain) {
        List<Integer> frame = new ArrayList<>();
        frame.add(126);
        for (int b : plain) {
            frame.addAll(b == 125 || b == 126 ? List.of(125, b ^ 32) : List.of(b));
        }
        frame.add(126);
        return frame;
    }

    int reply(int i) {
        if (i < 0 || i >= reply.size()) {
            throw new IndexOutOfBoundsException();
        }
        return reply.get(i);
    }

    long flash(int slot, int word) {
        within(slot >= 0 && slot <= 11);
        within(word >= 0 && word <= 5);
        return sectors[slot / 3][slot % 3][word];
    }

    double read(int what) {
        within(what >= 0 && what <= 4);
        mustBeOn();
        return what == 4 ? highest : what == 3 ? credit : registers[what];
    }

    double price(int tariff) {
        within(tariff >= 0 && tariff <= 2);
        return prices[tariff];
    }

    int count(int what) {
        within(what >= 0 && what <= 10);
        if (what >= 6) {
            mustBeOn();
        }
        return switch (what) {
            case 0 -> on ? 1 : 0;
            case 1 -> events.size();
            case 6 -> time;
            case 7 -> open ? 0 : 1;
            case 8 -> emergencyUsed ? 1 : 0;
            case 9 -> last;
            case 10 -> tariffNow();
            default -> wear[what - 2];
        };
    }
}
