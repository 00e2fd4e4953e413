/** Promises 2, 8 to 11, 21 and 23: the lives of processes. */
public final class ProcessesTest {
    private ProcessesTest() {
    }

    public static void main(String[] args) {
        spawn();
        start();
        give();
        kill();
        killOfTheCaller();
        reap();
        reapOfParents();
        process();
        count();
        Script.finish();
    }

    private static void spawn() {
        Script.run("2 spawn",
                "spawn 5 19 = 1", "process 5 0 = 1", "process 5 1 = 1", "process 5 2 = 19", "process 5 3 = 1",
                "process 5 4 = 0", "page 19 0 = 1", "page 19 1 = 5", "page 19 2 = 0", "count 0 = 1",
                "spawn 5 18 ! IllegalState", "spawn 4 19 ! IllegalState", "spawn 4 0 ! IllegalState",
                "spawn 1 18 ! IllegalState", "spawn 4 18 = 1", "start 4 = 1", "give 4 = 1", "spawn 2 1 = 1",
                "process 2 1 = 4", "kill 2 = 0", "spawn 2 3 ! IllegalState");
        Script.run("2 a process used again has no descriptors and an empty root",
                "spawn 2 5 = 1", "open 2 3 0 = 1", "table 5 0 6 3 = 1", "kill 2 = 1", "close 2 3 = 0",
                "release 5 0 = 6", "reap 2 = 0", "spawn 2 6 = 1", "process 2 4 = 0", "page 6 2 = 0",
                "page 5 0 = 0");
    }

    private static void start() {
        Script.run("8 start",
                "start 2 ! IllegalState", "start 1 ! IllegalState", "spawn 2 5 = 1", "start 2 = 1",
                "process 2 0 = 2", "count 0 = 1", "start 2 ! IllegalState", "spawn 3 6 = 1", "give 2 = 1",
                "start 3 ! IllegalState", "start 2 ! IllegalState", "start 1 ! IllegalState", "give 1 = 2",
                "start 3 = 1", "kill 3 = 0", "start 3 ! IllegalState");
    }

    private static void give() {
        Script.run("9 give",
                "give 1 ! IllegalState", "give 2 ! IllegalState", "spawn 2 5 = 1", "give 2 ! IllegalState",
                "start 2 = 1", "give 2 = 1", "process 1 0 = 2", "process 2 0 = 3", "count 0 = 2",
                "give 2 ! IllegalState", "give 1 = 2", "process 1 0 = 3", "process 2 0 = 2", "kill 2 = 0",
                "give 2 ! IllegalState");
        Script.run("9 give to one that is no relative",
                "spawn 2 5 = 1", "spawn 3 6 = 1", "start 2 = 1", "start 3 = 1", "give 2 = 1", "give 3 = 2",
                "count 0 = 3");
        Script.run("9 give to one that waits",
                "table 0 0 1 3 = 1", "spawn 2 5 = 1", "start 2 = 1", "expect 2 0 = 2", "give 1 ! IllegalState");
    }

    private static void kill() {
        Script.run("10 kill of a child",
                "kill 1 ! UnsupportedOperation", "kill 2 ! IllegalState", "spawn 2 5 = 1", "open 2 0 0 = 1",
                "open 2 2 1 = 1", "kill 2 = 2", "process 2 0 = 5", "process 2 1 = 1", "process 2 2 = 5",
                "process 2 3 = 1", "process 2 4 = 2", "count 0 = 1", "kill 2 ! IllegalState",
                "spawn 3 6 = 1", "start 3 = 1", "give 3 = 1", "kill 1 ! UnsupportedOperation",
                "kill 2 ! IllegalState", "spawn 4 7 = 1", "give 1 = 3", "kill 4 ! IllegalState", "kill 3 = 0",
                "kill 4 ! IllegalState");
        Script.run("10 kill of a child that waits",
                "spawn 2 5 = 1", "table 5 0 6 3 = 1", "start 2 = 1", "give 2 = 1", "expect 1 0 = 1",
                "process 2 0 = 4", "kill 2 = 0", "process 2 0 = 5", "table 0 0 1 3 = 1", "frame 1 0 2 3 = 1",
                "send 2 0 ! IllegalState");
        Script.run("10 kill by a sibling",
                "spawn 2 5 = 1", "spawn 3 6 = 1", "start 2 = 1", "start 3 = 1", "give 2 = 1",
                "kill 3 ! IllegalState");
    }

    private static void killOfTheCaller() {
        Script.run("10 kill of the caller: rising numbers from it",
                "spawn 2 5 = 1", "spawn 3 6 = 1", "spawn 4 7 = 1", "spawn 5 8 = 1", "start 3 = 1", "start 5 = 1",
                "give 3 = 1", "open 3 1 2 = 1", "kill 3 = 1", "count 0 = 5", "process 5 0 = 3", "process 3 0 = 5",
                "process 1 0 = 2", "kill 5 = 0", "count 0 = 1", "process 1 0 = 3");
        Script.run("10 kill of the caller: around to a lower one",
                "spawn 2 5 = 1", "spawn 3 6 = 1", "spawn 4 7 = 1", "start 2 = 1", "start 4 = 1", "table 0 0 1 3 = 1",
                "expect 4 0 = 4", "kill 4 = 0", "count 0 = 2", "kill 2 ! IllegalState", "count 0 = 2",
                "process 2 0 = 3");
        Script.run("10 kill of the caller: one above it comes before one below it",
                "spawn 2 5 = 1", "spawn 3 6 = 1", "spawn 4 7 = 1", "start 2 = 1", "start 3 = 1", "start 4 = 1",
                "give 3 = 1", "kill 3 = 0", "count 0 = 4", "kill 4 = 0", "count 0 = 1");
        Script.run("10 kill of the caller: the nearest above comes first",
                "spawn 2 5 = 1", "spawn 3 6 = 1", "spawn 4 7 = 1", "start 2 = 1", "start 3 = 1", "start 4 = 1",
                "give 2 = 1", "kill 2 = 0", "count 0 = 3", "kill 3 = 0", "count 0 = 4", "kill 4 = 0", "count 0 = 1");
    }

    private static void reap() {
        Script.run("11 reap",
                "reap 1 ! IllegalState", "reap 2 ! IllegalState", "spawn 2 5 = 1", "reap 2 ! IllegalState",
                "table 5 3 6 3 = 1", "frame 6 0 7 3 = 1", "open 2 3 1 = 1", "start 2 = 1", "reap 2 ! IllegalState",
                "kill 2 = 1", "reap 2 ! IllegalState", "release 6 0 = 7", "reap 2 ! IllegalState",
                "release 5 3 = 6", "reap 2 ! IllegalState", "close 2 3 = 0", "reap 2 = 0", "process 2 0 = 0",
                "process 2 1 = 0", "process 2 2 = -1", "process 2 3 = 0", "page 5 0 = 0", "page 5 1 = 0",
                "count 1 = 19", "count 2 = 1", "reap 2 ! IllegalState");
        Script.run("11 reap with a descriptor alone",
                "spawn 2 5 = 1", "open 2 0 0 = 1", "kill 2 = 1", "reap 2 ! IllegalState", "close 2 0 = 0",
                "reap 2 = 0");
        Script.run("11 reap with a table alone",
                "spawn 2 5 = 1", "table 5 0 6 3 = 1", "kill 2 = 0", "reap 2 ! IllegalState", "release 5 0 = 6",
                "reap 2 = 0");
    }

    private static void reapOfParents() {
        Script.run("11 reap of one with children",
                "spawn 2 5 = 1", "start 2 = 1", "give 2 = 1", "spawn 3 6 = 1", "spawn 4 7 = 1", "spawn 5 8 = 1",
                "start 3 = 1", "kill 4 = 0", "give 1 = 2", "reap 4 ! IllegalState", "kill 2 = 0", "process 3 1 = 2",
                "reap 2 = 3", "process 3 1 = 1", "process 4 1 = 1", "process 5 1 = 1", "process 1 1 = 0",
                "process 3 0 = 2", "process 4 0 = 5", "process 5 0 = 1", "reap 4 = 0", "start 5 = 1", "count 2 = 3");
        Script.run("11 reap by a parent that is not process 1",
                "spawn 2 5 = 1", "start 2 = 1", "give 2 = 1", "spawn 3 6 = 1", "start 3 = 1", "give 3 = 2",
                "spawn 4 7 = 1", "give 2 = 3", "kill 3 = 0", "reap 3 = 1", "process 4 1 = 1", "process 2 1 = 1",
                "start 4 ! IllegalState", "give 1 = 2", "start 4 = 1");
    }

    private static void process() {
        Script.run("21 process",
                "spawn 3 9 = 1", "table 9 0 10 3 = 1", "frame 10 0 11 3 = 1", "frame 10 1 12 3 = 1", "open 3 0 0 = 1",
                "open 1 0 1 = 1", "share 0 3 2 = 2", "process 3 0 = 1", "process 3 1 = 1", "process 3 2 = 9",
                "process 3 3 = 4", "process 3 4 = 2", "process 1 4 = 1", "process 1 3 = 1");
    }

    private static void count() {
        Script.run("23 count",
                "table 0 0 1 3 = 1", "frame 1 0 2 3 = 1", "open 1 0 0 = 1", "open 1 1 2 = 1", "put 0 0 = 1",
                "put 1 0 = 1", "put 1 0 = 2", "count 3 = 3", "close 1 1 = 0", "count 3 = 1", "close 1 0 = 0",
                "count 3 = 0", "count 0 = 1", "count 1 = 17", "spawn 2 3 = 1", "count 1 = 16", "count 2 = 2",
                "start 2 = 1", "give 2 = 1", "count 0 = 2", "kill 2 = 0", "count 0 = 1", "count 2 = 2");
        Script.run("23 count of ints in a zombie's pipe",
                "table 0 0 1 3 = 1", "frame 1 0 2 3 = 1", "open 1 0 0 = 1", "put 0 0 = 1", "spawn 2 5 = 1",
                "share 0 2 0 = 2", "close 1 0 = 1", "kill 2 = 1", "count 3 = 1", "close 2 0 = 0", "count 3 = 0");
    }
}
