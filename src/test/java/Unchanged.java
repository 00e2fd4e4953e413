import java.util.ArrayList;
import java.util.List;

/**
 * Whether a call that throws changes nothing: a kernel that had the call and one that had not are
 * asked the same questions. They are new ones each time, because the questions change things too and
 * an object is good for 512 calls alone.
 */
final class Unchanged {
    private static final int CALLS = 512;
    private static final List<List<Call>> QUESTIONS = questions();

    private Unchanged() {
    }

    static boolean by(Call refused, List<Call> before) {
        List<Call> with = new ArrayList<>(before);
        with.add(refused);
        for (List<Call> asked : QUESTIONS) {
            if (!answers(before, asked).equals(answers(with, asked))) {
                return false;
            }
        }
        return true;
    }

    private static List<String> answers(List<Call> before, List<Call> asked) {
        if (before.size() + asked.size() > CALLS) {
            throw new AssertionError("too many calls for one object: " + before);
        }
        FiniteKernel kernel = new FiniteKernel();
        for (Call call : before) {
            call.on(kernel);
        }
        List<String> answers = new ArrayList<>();
        for (Call call : asked) {
            answers.add(call.on(kernel));
        }
        return answers;
    }

    private static List<List<Call>> questions() {
        List<List<Call>> questions = new ArrayList<>();
        for (int process = 1; process <= Kernels.PROCESSES; process++) {
            List<Call> asked = new ArrayList<>();
            addWhatIsTold(asked);
            addWaysToRun(asked, process);
            addWhatTheCallerSees(asked);
            questions.add(asked);
        }
        return questions;
    }

    private static void addWhatIsTold(List<Call> asked) {
        for (int what = 0; what <= 3; what++) {
            asked.add(new Call("count", what));
        }
        for (int process = 1; process <= Kernels.PROCESSES; process++) {
            for (int what = 0; what <= 4; what++) {
                asked.add(new Call("process", process, what));
            }
        }
        for (int page = 0; page < Kernels.PAGES; page++) {
            for (int what = 0; what <= 2; what++) {
                asked.add(new Call("page", page, what));
            }
        }
    }

    // What a process sees is told to it alone: an embryo must start first, and one that waits be sent a page.
    private static void addWaysToRun(List<Call> asked, int process) {
        asked.add(new Call("start", process));
        for (int address = 0; address < Kernels.ADDRESSES; address += 4) {
            asked.add(new Call("send", process, address));
        }
        asked.add(new Call("give", process));
    }

    // Rights of 3 come first, for they open every word and every pipe.
    private static void addWhatTheCallerSees(List<Call> asked) {
        for (int page = 0; page < Kernels.PAGES; page++) {
            for (int entry = 0; entry < 4; entry++) {
                asked.add(new Call("protect", page, entry, 3));
            }
        }
        for (int address = 0; address < Kernels.ADDRESSES; address++) {
            asked.add(new Call("read", address));
        }
        for (int descriptor = 0; descriptor < 4; descriptor++) {
            for (int address = 0; address < Kernels.ADDRESSES; address += 4) {
                asked.add(new Call("take", descriptor, address));
            }
        }
    }
}
