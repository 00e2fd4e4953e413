import java.util.ArrayList;
import java.util.Arrays;
import java.util.List;
import java.util.Map;
import java.util.Random;
import java.util.TreeMap;

/** Long runs of calls on the kernel and on the model: every answer is the same, and the state told at the end. */
public final class ModelTest {
    private static final int RUNS = 1600;
    private static final int CALLS = 512;
    private static final int STATE_CALLS = 4 + 5 * 5 + 20 * 3 + 64;
    private static final int SELDOM = 20;

    // What each number of a call is: process, page, entry or descriptor, rights, pipe, address, value.
    private static final String[] CALLS_BY_KIND = {
        "spawn PG", "table GEGR", "frame GEGR", "protect GER", "copy GG", "release GE", "start P", "give P",
        "kill P", "reap P", "open PEI", "share EPE", "close PE", "put EA", "take EA", "read A", "write AV",
        "expect PA", "send PA"};
    // Ends of things are rarer than their beginnings, or nothing would ever grow.
    private static final int[] WEIGHTS = {3, 8, 14, 3, 2, 2, 3, 4, 1, 3, 3, 4, 2, 6, 6, 4, 8, 4, 6};

    private static final Map<String, Integer> OUTCOMES = new TreeMap<>();

    private ModelTest() {
    }

    public static void main(String[] args) {
        for (int seed = 0; seed < RUNS; seed++) {
            compareOneRun(new Random(seed), seed);
        }
        checkEveryOutcomeWasMet();
        Script.finish();
    }

    private static void compareOneRun(Random random, int seed) {
        FiniteKernel kernel = new FiniteKernel();
        Model model = new Model();
        List<String> run = new ArrayList<>();
        // An object is good for 512 calls: half of the runs use them all, the others ask for the state instead.
        boolean toTheEnd = seed % 2 == 0;
        int calls = toTheEnd ? CALLS : 1 + random.nextInt(CALLS - STATE_CALLS);
        for (int i = 0; i < calls; i++) {
            String[] call = CALLS_BY_KIND[pickWeighted(random)].split(" ");
            int[] numbers = numbersFor(call, model, random);
            String due = model.answer(call[0], numbers);
            String got = Kernels.answer(kernel, call[0], numbers);
            run.add(call[0] + Arrays.toString(numbers) + " " + got);
            note(call[0], due);
            if (!got.equals(due)) {
                Script.wrong("seed " + seed + ": " + run + ", due is " + due);
                return;
            }
        }
        if (!toTheEnd && !sameState(kernel, model)) {
            Script.wrong("seed " + seed + ": " + run + ", and the state differs");
        }
    }

    private static int pickWeighted(Random random) {
        int rest = random.nextInt(Arrays.stream(WEIGHTS).sum());
        int picked = 0;
        while (rest >= WEIGHTS[picked]) {
            rest -= WEIGHTS[picked];
            picked++;
        }
        return picked;
    }

    private static int[] numbersFor(String[] call, Model model, Random random) {
        int[] numbers = new int[call[1].length()];
        for (int i = 0; i < numbers.length; i++) {
            numbers[i] = random.nextInt(200) == 0 ? random.nextInt(80) - 8 : number(call, i, model, random);
        }
        return numbers;
    }

    private static int number(String[] call, int place, Model model, Random random) {
        switch (call[1].charAt(place)) {
            case 'P': return 1 + random.nextInt(5);
            case 'G': return pageFor(call[0], place, model, random);
            case 'E': return random.nextInt(4);
            case 'R': return random.nextInt(3) == 0 ? 1 + random.nextInt(3) : 3;
            case 'I': return random.nextInt(3);
            case 'A': return addressFor(model, random);
            default: return random.nextInt(100);
        }
    }

    // A page taken at random is seldom of the kind that a call needs, so most are picked by kind.
    private static int pageFor(String name, int place, Model model, Random random) {
        Model.Kind kind = kindFor(name, place, random);
        List<Integer> fitting = new ArrayList<>();
        for (Model.Page page : model.pages) {
            if (page.kind == kind) {
                fitting.add(page.number);
            }
        }
        boolean anyPage = fitting.isEmpty() || random.nextInt(8) == 0;
        return anyPage ? random.nextInt(20) : fitting.get(random.nextInt(fitting.size()));
    }

    private static Model.Kind kindFor(String name, int place, Random random) {
        switch (name) {
            case "table": return place == 0 ? Model.Kind.ROOT : Model.Kind.FREE;
            case "frame": return place == 0 ? Model.Kind.TABLE : Model.Kind.FREE;
            case "copy": return Model.Kind.FRAME;
            case "spawn": return Model.Kind.FREE;
            default: return random.nextBoolean() ? Model.Kind.ROOT : Model.Kind.TABLE;
        }
    }

    private static int addressFor(Model model, Random random) {
        int address = random.nextInt(64);
        for (int tries = 0; tries < 6 && model.caller.root.entries[address / 16] == null; tries++) {
            address = random.nextInt(64);
        }
        return address;
    }

    private static boolean sameState(FiniteKernel kernel, Model model) {
        boolean same = true;
        for (int what = 0; what <= 3; what++) {
            same &= sameAnswer(kernel, model, "count", what);
        }
        for (int process = 1; process <= Kernels.PROCESSES; process++) {
            for (int what = 0; what <= 4; what++) {
                same &= sameAnswer(kernel, model, "process", process, what);
            }
        }
        for (int page = 0; page < Kernels.PAGES; page++) {
            for (int what = 0; what <= 2; what++) {
                same &= sameAnswer(kernel, model, "page", page, what);
            }
        }
        for (int address = 0; address < Kernels.ADDRESSES; address++) {
            same &= sameAnswer(kernel, model, "read", address);
        }
        return same;
    }

    private static boolean sameAnswer(FiniteKernel kernel, Model model, String name, int... numbers) {
        return Kernels.answer(kernel, name, numbers).equals(model.answer(name, numbers));
    }

    private static void note(String name, String due) {
        String outcome = name + (due.endsWith("Exception") ? " " + due : " answers");
        OUTCOMES.merge(outcome, 1, Integer::sum);
    }

    // Runs that never come to a call's answer or to one of its exceptions would test less than they seem to.
    private static void checkEveryOutcomeWasMet() {
        for (java.lang.reflect.Method method : FiniteKernel.class.getDeclaredMethods()) {
            if (!java.lang.reflect.Modifier.isPublic(method.getModifiers())
                    || Arrays.asList("process", "page", "count").contains(method.getName())) {
                continue;
            }
            checkMet(method.getName() + " answers");
            for (Class<?> thrown : method.getExceptionTypes()) {
                checkMet(method.getName() + " " + thrown.getSimpleName());
            }
        }
    }

    private static void checkMet(String outcome) {
        if (OUTCOMES.getOrDefault(outcome, 0) < SELDOM) {
            Script.wrong("the runs met too seldom: " + outcome + ", " + OUTCOMES.get(outcome) + " times");
        }
    }
}
