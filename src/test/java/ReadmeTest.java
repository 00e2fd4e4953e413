import java.io.IOException;
import java.nio.file.Files;
import java.nio.file.Path;
import java.util.regex.Matcher;
import java.util.regex.Pattern;

/** The example in README.md, line by line on one kernel, answers what stands beside each call. */
public final class ReadmeTest {
    private static final String PREFIX = "kernel.";
    private static final Pattern LINE = Pattern.compile("kernel\\.(\\w+)\\(([-0-9, ]*)\\); +// (-?\\w+)(:.*)?");

    private ReadmeTest() {
    }

    public static void main(String[] args) throws IOException {
        FiniteKernel kernel = new FiniteKernel();
        int calls = 0;
        for (String line : Files.readAllLines(Path.of("README.md"))) {
            if (line.startsWith(PREFIX)) {
                checkLine(kernel, line);
                calls++;
            }
        }
        // An example in another form would be passed over and look like a pass.
        if (calls == 0) {
            Script.wrong("README.md has no example");
        }
        Script.finish();
    }

    private static void checkLine(FiniteKernel kernel, String line) {
        Matcher parts = LINE.matcher(line);
        if (!parts.matches()) {
            Script.wrong("README.md has a line that can't be read: " + line);
            return;
        }
        String got = Call.of(parts.group(1) + " " + parts.group(2).replace(",", " ")).on(kernel);
        if (!got.equals(parts.group(3))) {
            Script.wrong("README.md: " + line + ", but it answered " + got);
        }
    }
}
