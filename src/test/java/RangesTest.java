/** Numbers out of range are refused with IllegalArgumentException before anything else is tested. */
public final class RangesTest {
    private static final int[] PROCESS = {1, 5};
    private static final int[] PAGE = {0, 19};
    private static final int[] FOUR = {0, 3};
    private static final int[] RIGHTS = {1, 3};
    private static final int[] PIPE = {0, 2};
    private static final int[] ADDRESS = {0, 63};
    private static final int[] ANY = {Integer.MIN_VALUE, Integer.MAX_VALUE};

    private RangesTest() {
    }

    public static void main(String[] args) {
        sweep("spawn", PROCESS, PAGE);
        sweep("table", PAGE, FOUR, PAGE, RIGHTS);
        sweep("frame", PAGE, FOUR, PAGE, RIGHTS);
        sweep("protect", PAGE, FOUR, RIGHTS);
        sweep("copy", PAGE, PAGE);
        sweep("release", PAGE, FOUR);
        sweep("start", PROCESS);
        sweep("give", PROCESS);
        sweep("kill", PROCESS);
        sweep("reap", PROCESS);
        sweep("open", PROCESS, FOUR, PIPE);
        sweep("share", FOUR, PROCESS, FOUR);
        sweep("close", PROCESS, FOUR);
        sweep("put", FOUR, ADDRESS);
        sweep("take", FOUR, ADDRESS);
        sweep("read", ADDRESS);
        sweep("write", ADDRESS, ANY);
        sweep("expect", PROCESS, ADDRESS);
        sweep("send", PROCESS, ADDRESS);
        sweep("process", PROCESS, new int[] {0, 4});
        sweep("page", PAGE, new int[] {0, 2});
        sweep("count", new int[] {0, 3});
        Script.finish();
    }

    private static void sweep(String name, int[]... ranges) {
        for (int place = 0; place < ranges.length; place++) {
            int low = ranges[place][0];
            int high = ranges[place][1];
            for (int edge = 0; edge < 2; edge++) {
                int[] numbers = edges(ranges, edge);
                numbers[place] = low;
                check(name, numbers, false);
                numbers[place] = high;
                check(name, numbers, false);
                if (low > Integer.MIN_VALUE) {
                    checkRefused(name, numbers, place, low - 1, high + 1, Integer.MIN_VALUE, Integer.MAX_VALUE);
                }
            }
        }
    }

    private static int[] edges(int[][] ranges, int edge) {
        int[] numbers = new int[ranges.length];
        for (int place = 0; place < ranges.length; place++) {
            numbers[place] = ranges[place][edge];
        }
        return numbers;
    }

    private static void checkRefused(String name, int[] numbers, int place, int... outside) {
        for (int number : outside) {
            numbers[place] = number;
            check(name, numbers, true);
        }
    }

    private static void check(String name, int[] numbers, boolean refused) {
        FiniteKernel kernel = new FiniteKernel();
        String before = Kernels.visibleState(kernel);
        String got = Kernels.answer(kernel, name, numbers);
        if (got.equals("IllegalArgumentException") != refused) {
            Script.wrong(name + java.util.Arrays.toString(numbers) + " answered " + got);
        }
        if (refused && !before.equals(Kernels.visibleState(kernel))) {
            Script.wrong(name + java.util.Arrays.toString(numbers) + " changed the state");
        }
    }
}
