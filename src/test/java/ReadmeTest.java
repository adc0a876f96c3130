import java.io.IOException;
import java.nio.file.Files;
import java.nio.file.Path;
import java.util.regex.Matcher;
import java.util.regex.Pattern;

/** The example of README.md: each of its calls that tells an answer stands here, too, and has that answer. */
public final class ReadmeTest {
    private static final Pattern ANSWERED = Pattern.compile("(?m)^(x\\.\\w+\\(.*?\\));\\s+// (-?\\d+)\\b");

    /** The calls of the example that tell their answers, in their row. */
    private static final String[] CALLS = {
        "x.list()", "x.inscribe(0)", "x.fits(0)", "x.fit(0, 0, 10)", "x.letters(0, 1)", "x.by(0, 1, 1)",
        "x.heaviest(0, 0)", "x.would(0, 1, 1)", "x.ask(0)", "x.restored(0, 1)"
    };

    private static long[] answers() {
        LostLetters x = new LostLetters();
        long[] got = new long[CALLS.length];
        x.feed(0x616220353b206120L, 0x333b206220343b00L, 0);
        x.end(15);
        got[0] = x.list();
        x.feed(0x612e000000000000L, 0, 0);
        x.end(2);
        got[1] = x.inscribe(0);
        got[2] = x.fits(0);
        got[3] = x.fit(0, 0, 10);
        got[4] = x.letters(0, 1);
        got[5] = x.by(0, 1, 1);
        got[6] = x.heaviest(0, 0);
        got[7] = x.would(0, 1, 1);
        got[8] = x.ask(0);
        got[9] = x.restored(0, 1);
        return got;
    }

    public static void main(String[] args) throws IOException {
        Matcher line = ANSWERED.matcher(Files.readString(Path.of("README.md")));
        long[] got = answers();
        int found = 0;
        while (line.find()) {
            boolean known = found < CALLS.length && line.group(1).equals(CALLS[found]);
            Due.due("the call " + line.group(1) + " is tested here", known, true);
            if (known) {
                Due.due(CALLS[found], got[found], Long.parseLong(line.group(2)));
            }
            found++;
        }
        Due.due("calls of the example", found, CALLS.length);
        Due.finish("ReadmeTest");
    }
}
