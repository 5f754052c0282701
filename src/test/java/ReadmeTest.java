import java.io.IOException;
import java.nio.file.Files;
import java.nio.file.Path;
import java.util.List;

/** README.md: its example is made here call by call, and answers what README.md says that it does. */
public final class ReadmeTest {
    private static final Path README = Path.of("README.md");
    private static final Path SOURCE = Path.of("src/test/java/ReadmeTest.java");

    public static void main(String[] args) throws IOException {
        measures();
        reads();
        fails();
        holdsEveryLine();
        Check.end();
    }

    private static MeterBox used() {
        MeterBox meter = new MeterBox();
        meter.plan(0, 0, 360, 1);
        meter.use(230.0, 10.0, 60);
        meter.token(733091545789L);
        return meter;
    }

    private static void measures() {
        MeterBox meter = new MeterBox();
        Check.due("plan", meter.plan(0, 0, 360, 1), 1);
        Check.due("use", meter.use(230.0, 10.0, 60), 60);
        Check.due("token", meter.token(733091545789L), 0);
        Check.due("about 12.7", Math.abs(meter.read(3) - 12.7) < 0.000001, true);
        Check.due("LAST", meter.count(9), 5);
        Check.due("OFF", meter.power(false), -1);
        Check.due("ON", meter.power(true), 1);
        Check.due("CREDIT", meter.read(3), 12.7);
        Check.due("the token of README.md", 733091545789L, Bench.tokenOf(Bench.CREDIT, 5, 1000));
    }

    private static void reads() {
        MeterBox meter = used();
        int[] request = {126, 0, 5, 234, 88, 126};
        int length = 0;
        for (int b : request) {
            length = meter.request(b);
        }
        Check.due("length", length, 13);
        int[] due = {126, 128, 0, 0, 0, 0, 0, 0, 0, 60, 223, 142, 126};
        for (int i = 0; i < due.length; i++) {
            Check.due("reply(" + i + ")", meter.reply(i), due[i]);
        }
    }

    private static void fails() {
        MeterBox meter = used();
        Check.due("cut", meter.cut(3), -1);
        Check.refused("save", ArithmeticException.class, () -> meter.save());
        Check.due("OFF", meter.count(0), 0);
        Check.due("ON", meter.power(true), 1);
    }

    /** Else the example could change without a test of it. */
    private static void holdsEveryLine() throws IOException {
        List<String> readme = Files.readAllLines(README);
        String source = Files.readString(SOURCE);
        boolean inExample = false;
        int lines = 0;
        for (String line : readme) {
            if (line.startsWith("```")) {
                inExample = line.equals("```java");
            } else if (inExample && !line.isBlank()) {
                String call = line.replaceAll("//.*", "").strip().replaceAll(";$", "");
                Check.due("README.md, tried here: " + call, source.contains(call), true);
                lines++;
            }
        }
        Check.due("README.md has an example", lines > 0, true);
    }
}
