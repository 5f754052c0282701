import java.util.ArrayList;
import java.util.List;

/** What the tests do to a meter again and again. */
final class Bench {
    static final int CREDIT = 0;
    static final int PRICES = 1;
    static final int CLEAR = 2;

    private Bench() {
    }

    static long tokenOf(int kind, int number, int x) {
        long body = (long) kind << 30 | (long) number << 16 | x;
        return tokenOfBody(body, checkOf(body));
    }

    static long tokenOfBody(long body, int check) {
        return (body * 256 + check) ^ 733007751850L;
    }

    static int checkOf(long body) {
        long sum = body % 256 + body / 256 % 256 + body / 65536 % 256 + body / 16777216;
        return (int) ((sum * 31 + 7) % 256);
    }

    static int fcsOf(int... bytes) {
        int f = 0xFFFF;
        for (int b : bytes) {
            for (int bit = 0; bit < 8; bit++) {
                boolean odd = ((f ^ b >> bit) & 1) != 0;
                f >>= 1;
                if (odd) {
                    f ^= 0x8408;
                }
            }
        }
        return f ^ 0xFFFF;
    }

    /** The bytes with their FCS, escaped and between flags. */
    static int[] frame(int... bytes) {
        int fcs = fcsOf(bytes);
        List<Integer> row = new ArrayList<>();
        row.add(126);
        for (int b : bytes) {
            addEscaped(row, b);
        }
        addEscaped(row, fcs % 256);
        addEscaped(row, fcs / 256);
        row.add(126);
        return row.stream().mapToInt(Integer::intValue).toArray();
    }

    private static void addEscaped(List<Integer> row, int b) {
        if (b == 125 || b == 126) {
            row.add(125);
            row.add(b ^ 32);
        } else {
            row.add(b);
        }
    }

    /** Sends all bytes; answers what the last one answered. */
    static int send(MeterBox x, int... bytes) {
        for (int i = 0; i < bytes.length - 1; i++) {
            Check.due("request byte " + i, x.request(bytes[i]), 0);
        }
        return x.request(bytes[bytes.length - 1]);
    }

    static byte[] replyOf(MeterBox x, int length) {
        byte[] row = new byte[length];
        for (int i = 0; i < length; i++) {
            row[i] = (byte) x.reply(i);
        }
        return row;
    }

    /** Asks, checks the whole frame of the reply, and answers the number in it. */
    static long ask(MeterBox x, int command, int argument) {
        int length = send(x, frame(command, argument));
        int[] plain = new int[11];
        int size = 0;
        for (int i = 1; i < length - 1; i++) {
            int b = x.reply(i);
            if (b == 125) {
                i++;
                b = x.reply(i) ^ 32;
            }
            plain[size++] = b;
        }
        long number = 0;
        for (int i = 1; i <= 8; i++) {
            number = number * 256 + plain[i];
        }
        int[] due = frame(java.util.Arrays.copyOf(plain, 9));
        Check.due("length of the reply", length, due.length);
        for (int i = 0; i < length && i < due.length; i++) {
            Check.due("reply(" + i + ")", x.reply(i), due[i]);
        }
        Check.due("command of the reply", plain[0], command + 128);
        return number;
    }

    static long event(MeterBox x, int i) {
        return ask(x, 2, i);
    }

    /** Lets minutes pass without any load. */
    static void idle(MeterBox x, int minutes) {
        while (minutes > 0) {
            int some = Math.min(minutes, 300);
            x.use(230.0, 0.0, some);
            minutes -= some;
        }
    }

    /** A load that takes exactly 0.25 from each register's unit and, at price 1.0, from the credit, a minute. */
    static int draw(MeterBox x, int minutes) {
        return x.use(150.0, 100.0, minutes);
    }

    /** TIME 381, CREDIT -0.25, RELAY open by EVENT 1. */
    static MeterBox opened() {
        MeterBox x = new MeterBox();
        idle(x, 360);
        draw(x, 21);
        return x;
    }

    /** All sectors are worn out and the latest slot is 11. */
    static MeterBox wornOut() {
        MeterBox x = new MeterBox();
        wearOut(x);
        return x;
    }

    static void wearOut(MeterBox x) {
        for (int i = 0; i < 48; i++) {
            x.save();
        }
    }
}
