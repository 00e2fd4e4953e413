import java.util.ArrayList;
import java.util.List;

/**
 * Numbers out of range are refused with IllegalArgumentException before anything else is tested, and
 * the first and the last number of each range are not; on a new kernel and on one that is in use.
 */
public final class RangesTest {
    private static final String[] NEW = {};
    // One process of each state; frames, rights and ints that a wrong number could spoil.
    private static final String[] IN_USE = {
        "spawn 4 8", "table 8 0 9 3", "start 4", "give 4", "expect 1 0", "spawn 2 6", "table 6 0 11 3",
        "frame 11 0 12 3", "spawn 3 7", "start 3", "spawn 5 10", "open 5 3 2", "kill 5", "table 0 0 1 3",
        "frame 1 0 2 3", "table 0 3 18 3", "frame 18 3 19 3", "write 0 10", "write 3 11", "write 63 12",
        "open 1 0 0", "open 1 3 1", "put 0 0", "put 3 63"};

    private static final int[] PROCESS = {1, 5};
    private static final int[] PAGE = {0, 19};
    private static final int[] FOUR = {0, 3};
    private static final int[] RIGHTS = {1, 3};
    private static final int[] PIPE = {0, 2};
    private static final int[] ADDRESS = {0, 63};
    private static final int[] ANY = {Integer.MIN_VALUE, Integer.MAX_VALUE};

    private RangesTest() {
    }

    public static void main(String[] args) {
        sweepAll(NEW);
        sweepAll(IN_USE);
        Script.finish();
    }

    private static void sweepAll(String[] before) {
        List<Call> calls = new ArrayList<>();
        for (String call : before) {
            calls.add(Call.of(call));
        }
        sweepCallsOnPages(calls);
        sweepCallsOnProcesses(calls);
        sweepCallsOnPipes(calls);
        sweepCallsOnAddresses(calls);
        sweepCallsThatTell(calls);
    }

    private static void sweepCallsOnPages(List<Call> before) {
        sweep(before, "table", PAGE, FOUR, PAGE, RIGHTS);
        sweep(before, "frame", PAGE, FOUR, PAGE, RIGHTS);
        sweep(before, "protect", PAGE, FOUR, RIGHTS);
        sweep(before, "copy", PAGE, PAGE);
        sweep(before, "release", PAGE, FOUR);
    }

    private static void sweepCallsOnProcesses(List<Call> before) {
        sweep(before, "spawn", PROCESS, PAGE);
        sweep(before, "start", PROCESS);
        sweep(before, "give", PROCESS);
        sweep(before, "kill", PROCESS);
        sweep(before, "reap", PROCESS);
    }

    private static void sweepCallsOnPipes(List<Call> before) {
        sweep(before, "open", PROCESS, FOUR, PIPE);
        sweep(before, "share", FOUR, PROCESS, FOUR);
        sweep(before, "close", PROCESS, FOUR);
        sweep(before, "put", FOUR, ADDRESS);
        sweep(before, "take", FOUR, ADDRESS);
    }

    private static void sweepCallsOnAddresses(List<Call> before) {
        sweep(before, "read", ADDRESS);
        sweep(before, "write", ADDRESS, ANY);
        sweep(before, "expect", PROCESS, ADDRESS);
        sweep(before, "send", PROCESS, ADDRESS);
    }

    private static void sweepCallsThatTell(List<Call> before) {
        sweep(before, "process", PROCESS, new int[] {0, 4});
        sweep(before, "page", PAGE, new int[] {0, 2});
        sweep(before, "count", new int[] {0, 3});
    }

    private static void sweep(List<Call> before, String name, int[]... ranges) {
        for (int place = 0; place < ranges.length; place++) {
            for (int edge = 0; edge < 2; edge++) {
                int[] numbers = edges(ranges, edge);
                sweepPlace(before, name, numbers, place, ranges[place]);
            }
        }
    }

    private static void sweepPlace(List<Call> before, String name, int[] numbers, int place, int[] range) {
        for (int number : range) {
            numbers[place] = number;
            check(before, new Call(name, numbers), false);
        }
        if (range == ANY) {
            return;
        }
        int[] outside = {range[0] - 1, range[1] + 1, Integer.MIN_VALUE, Integer.MAX_VALUE};
        for (int number : outside) {
            numbers[place] = number;
            check(before, new Call(name, numbers), true);
        }
    }

    private static int[] edges(int[][] ranges, int edge) {
        int[] numbers = new int[ranges.length];
        for (int place = 0; place < ranges.length; place++) {
            numbers[place] = ranges[place][edge];
        }
        return numbers;
    }

    private static void check(List<Call> before, Call call, boolean refused) {
        FiniteKernel kernel = new FiniteKernel();
        for (Call earlier : before) {
            earlier.on(kernel);
        }
        String got = call.on(kernel);
        if (got.equals("IllegalArgumentException") != refused) {
            Script.wrong(call + " answered " + got + " after " + before);
        }
        if (refused && !Unchanged.by(call, before)) {
            Script.wrong(call + " changed something after " + before);
        }
    }
}
