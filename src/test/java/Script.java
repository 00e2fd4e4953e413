import java.util.ArrayList;
import java.util.List;

/**
 * Runs of calls written as text, each row on the same kernel: "table 0 0 1 3 = 1", or, for a call
 * that throws, "read 0 ! NoSuchElement". A row that throws must leave the visible state as it was.
 */
final class Script {
    private static int wrong = 0;

    private Script() {
    }

    static void run(String title, String... rows) {
        FiniteKernel kernel = new FiniteKernel();
        for (String row : rows) {
            runRow(title, kernel, row);
        }
    }

    static void wrong(String text) {
        wrong++;
        System.out.println(text);
    }

    static void finish() {
        System.out.println(wrong == 0 ? "all answers are as due" : wrong + " answers are not as due");
        if (wrong != 0) {
            System.exit(1);
        }
    }

    private static void runRow(String title, FiniteKernel kernel, String row) {
        boolean throwing = row.contains("!");
        String[] halves = row.split(throwing ? "!" : "=");
        String[] words = halves[0].trim().split(" +");
        String due = halves[1].trim() + (throwing ? "Exception" : "");
        String before = Kernels.visibleState(kernel);
        String got = Kernels.answer(kernel, words[0], numbers(words));
        if (!got.equals(due)) {
            wrong(title + ": " + row + ", but it answered " + got);
        }
        if (throwing && !before.equals(Kernels.visibleState(kernel))) {
            wrong(title + ": " + row + " changed the state");
        }
    }

    private static int[] numbers(String[] words) {
        List<Integer> numbers = new ArrayList<>();
        for (int i = 1; i < words.length; i++) {
            numbers.add(Integer.valueOf(words[i]));
        }
        return numbers.stream().mapToInt(Integer::intValue).toArray();
    }
}
