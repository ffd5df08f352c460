import java.io.IOException;
import java.nio.charset.StandardCharsets;
import java.nio.file.Files;
import java.nio.file.Path;
import java.util.ArrayList;
import java.util.List;

/** The calls that README.md shows answer what it says behind them, and it shows no others. */
public final class ReadmeTest {
    interface Answer {
        Object get();
    }

    private static final List<String> SHOWN = new ArrayList<>();
    private static int at = 0;

    public static void main(String[] args) throws IOException {
        for (String line : Files.readAllLines(Path.of("README.md"), StandardCharsets.US_ASCII)) {
            if (line.startsWith("city.")) {
                SHOWN.add(line);
            }
        }
        CanalCity city = new CanalCity();
        answers("city.drain(2, 0);", () -> city.drain(2, 0));
        answers("city.drain(1, 0);", () -> city.drain(1, 0));
        answers("city.build(2, 0, 3);", () -> city.build(2, 0, 3));
        answers("city.lot(2, 0, 4);", () -> city.lot(2, 0, 4));
        answers("city.best(5);", () -> city.best(5));
        answers("city.would(1, 0, 5);", () -> city.would(1, 0, 5));
        answers("city.build(1, 0, 5);", () -> city.build(1, 0, 5));
        answers("city.mean();", () -> city.mean());
        answers("city.foresee(12, 1);", () -> city.foresee(12, 1));
        answers("city.pass(12);", () -> city.pass(12));
        answers("city.bridge(3, 0);", () -> city.bridge(3, 0));
        answers("city.walk(1, 3);", () -> city.walk(1, 3));
        answers("city.sail(59);", () -> city.sail(59));
        answers("city.raze(2, 0);", () -> city.raze(2, 0));
        answers("city.dig(2, 0);", () -> city.dig(2, 0));
        answers("city.count(0);", () -> city.count(0));
        answers("city.drain(8, 0);", () -> city.drain(8, 0));
        answers("city.build(0, 7, 6);", () -> city.build(0, 7, 6));
        answers("city.build(0, 7, 3);", () -> city.build(0, 7, 3));
        answers("city.count(1);", () -> city.count(1));
        Check.due("calls that README.md shows", SHOWN.size(), at);
        Check.end("ReadmeTest");
    }

    /** The next line that is shown has this call, and what it says ahead of a colon is the answer. */
    private static void answers(String call, Answer answer) {
        String line = at < SHOWN.size() ? SHOWN.get(at) : "";
        at++;
        String said = line.startsWith(call) ? line.substring(call.length()).strip() : "another call";
        Check.due(call + " as README.md says", "// " + told(answer), said.split(":")[0]);
    }

    private static String told(Answer answer) {
        try {
            return String.valueOf(answer.get());
        } catch (RuntimeException e) {
            return "throws " + e.getClass().getSimpleName();
        }
    }
}
