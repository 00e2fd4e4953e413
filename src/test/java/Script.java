import java.util.ArrayList;
import java.util.HashSet;
import java.util.List;
import java.util.Set;

/**
 * Runs of calls written as text, on one new kernel: rows such as "table 0 0 1 3 = 1" or, for a call
 * that throws, "read 0 ! NoSuchElement", with a semicolon between two of them. A row that throws must
 * change nothing.
 */
final class Script {
    private static final int CALLS = 512;
    private static final Set<String> TITLES = new HashSet<>();
    private static int wrong = 0;

    private Script() {
    }

    static void run(String title, String... parts) {
        if (!TITLES.add(title)) {
            throw new AssertionError("two scripts are called " + title);
        }
        String[] rows = String.join(";", parts).split(" *; *");
        if (rows.length > CALLS) {
            throw new AssertionError(title + " has too many calls for one object");
        }
        FiniteKernel kernel = new FiniteKernel();
        List<Call> answered = new ArrayList<>();
        for (String row : rows) {
            runRow(title, kernel, answered, row);
        }
    }

    static void wrong(String text) {
        wrong++;
        System.out.println(text);
    }

    static void finish() {
        System.out.println(wrong == 0 ? "all answers are as due" : wrong + " answers are not as due");
        if (wrong != 0) {
            System.exit(1);
        }
    }

    private static void runRow(String title, FiniteKernel kernel, List<Call> answered, String row) {
        boolean throwing = row.contains("!");
        String[] halves = row.split(throwing ? "!" : "=");
        Call call = Call.of(halves[0]);
        String due = halves[1].trim() + (throwing ? "Exception" : "");
        String got = call.on(kernel);
        if (!got.equals(due)) {
            wrong(title + ": " + row + ", but it answered " + got);
        }
        if (!throwing) {
            answered.add(call);
        } else if (!Unchanged.by(call, answered)) {
            wrong(title + ": " + row + " changed something");
        }
    }
}
