/** Promises 12 to 16: descriptors and the pipes behind them. */
public final class PipesTest {
    private PipesTest() {
    }

    public static void main(String[] args) {
        open();
        share();
        close();
        put();
        take();
        order();
        ofAnotherCaller();
        Script.finish();
    }

    private static void open() {
        Script.run("12 open",
                "open 1 3 2 = 1", "process 1 4 = 1", "open 1 3 1 ! IllegalState", "open 1 3 2 ! IllegalState",
                "open 1 0 2 ! IllegalState", "open 2 0 0 ! UnsupportedOperation", "spawn 2 5 = 1",
                "open 2 0 2 ! IllegalState", "open 2 0 0 = 1", "start 2 = 1", "open 2 1 1 ! UnsupportedOperation",
                "open 2 0 2 ! UnsupportedOperation", "open 1 0 0 ! IllegalState", "kill 2 = 1", "open 2 1 1 = 1",
                "open 1 0 0 ! IllegalState", "process 2 4 = 2");
        Script.run("12 a parent is not MINE",
                "spawn 2 5 = 1", "start 2 = 1", "give 2 = 1", "open 1 0 0 ! UnsupportedOperation", "open 2 0 0 = 1");
        Script.run("12 a pipe opened is empty",
                "table 0 0 1 3 = 1", "frame 1 0 2 3 = 1", "open 1 0 1 = 1", "put 0 0 = 1", "put 0 0 = 2",
                "close 1 0 = 0", "count 3 = 0", "open 1 2 1 = 1", "count 3 = 0", "take 2 0 ! IllegalState",
                "put 2 0 = 1");
    }

    private static void share() {
        Script.run("13 share",
                "share 0 1 1 ! NoSuchElement", "share 0 2 1 ! UnsupportedOperation", "open 1 0 1 = 1",
                "share 0 1 0 ! IllegalState", "share 1 1 0 ! NoSuchElement", "share 0 1 3 = 2", "spawn 2 5 = 1",
                "share 3 2 2 = 3", "share 0 2 2 ! IllegalState", "share 0 2 3 = 4", "process 2 4 = 2",
                "start 2 = 1", "share 0 2 0 ! UnsupportedOperation", "share 1 2 0 ! UnsupportedOperation",
                "kill 2 = 2", "share 0 2 0 = 5", "close 1 0 = 4");
        Script.run("13 a pipe shared is not emptied",
                "table 0 0 1 3 = 1", "frame 1 0 2 3 = 1", "write 0 4 = 0", "open 1 0 1 = 1", "put 0 0 = 1",
                "share 0 1 1 = 2", "close 1 0 = 1", "take 1 1 = 4");
        Script.run("13 the own descriptor is the caller's",
                "spawn 2 5 = 1", "open 2 0 0 = 1", "share 0 2 1 ! NoSuchElement", "open 1 0 1 = 1",
                "share 0 2 1 = 2");
    }

    private static void close() {
        Script.run("14 close",
                "close 1 0 ! NoSuchElement", "close 2 0 ! UnsupportedOperation", "open 1 0 0 = 1", "share 0 1 1 = 2",
                "spawn 2 5 = 1", "share 0 2 0 = 3", "close 2 1 ! NoSuchElement", "close 1 0 = 2",
                "close 1 0 ! NoSuchElement", "start 2 = 1", "close 2 0 ! UnsupportedOperation",
                "close 2 1 ! UnsupportedOperation", "give 2 = 1", "close 1 1 ! UnsupportedOperation",
                "give 1 = 2", "kill 2 = 1", "close 2 0 = 1", "close 1 1 = 0", "process 1 4 = 0", "process 2 4 = 0");
    }

    private static void put() {
        Script.run("15 put",
                "put 0 0 ! NoSuchElement", "open 1 0 0 = 1", "put 0 0 ! NoSuchElement", "table 0 0 1 2 = 1",
                "put 0 0 ! NoSuchElement", "frame 1 0 2 1 = 1", "put 0 0 ! UnsupportedOperation",
                "put 1 0 ! NoSuchElement", "protect 0 0 1 = 2", "put 0 0 = 1", "put 0 1 = 2", "put 0 2 = 3",
                "put 0 3 = 4", "put 0 0 ! IllegalState", "put 0 4 ! NoSuchElement", "count 3 = 4",
                "protect 1 0 2 = 1", "put 0 0 ! UnsupportedOperation", "count 3 = 4");
    }

    private static void take() {
        Script.run("16 take",
                "take 0 0 ! NoSuchElement", "open 1 0 0 = 1", "take 0 0 ! NoSuchElement", "table 0 0 1 1 = 1",
                "take 0 0 ! NoSuchElement", "frame 1 0 2 3 = 1", "take 0 0 ! UnsupportedOperation",
                "take 1 0 ! NoSuchElement", "protect 0 0 3 = 1", "take 0 0 ! IllegalState",
                "take 0 4 ! NoSuchElement", "write 0 -5 = 0", "put 0 0 = 1", "protect 1 0 1 = 3",
                "take 0 1 ! UnsupportedOperation", "count 3 = 1", "protect 1 0 2 = 1", "take 0 1 = -5",
                "count 3 = 0", "protect 1 0 3 = 2", "read 1 = -5", "read 0 = -5", "take 0 1 ! IllegalState");
    }

    private static void order() {
        Script.run("15 and 16 ints come out in the order they went in",
                "table 0 0 1 3 = 1", "frame 1 0 2 3 = 1", "frame 1 1 3 3 = 1", "write 0 10 = 0", "write 1 11 = 0",
                "write 2 12 = 0", "write 3 13 = 0", "open 1 0 2 = 1", "share 0 1 3 = 2", "put 0 0 = 1", "put 3 1 = 2",
                "put 0 2 = 3", "take 3 4 = 10", "put 0 3 = 3", "put 0 0 = 4", "take 0 5 = 11", "take 0 6 = 12",
                "put 0 1 = 3", "take 3 7 = 13", "take 3 4 = 10", "take 3 4 = 11", "take 3 4 ! IllegalState",
                "read 4 = 11", "read 5 = 11", "read 6 = 12", "read 7 = 13");
        Script.run("15 and 16 pipes are apart",
                "table 0 0 1 3 = 1", "frame 1 0 2 3 = 1", "write 0 10 = 0", "write 1 11 = 0", "write 2 12 = 0",
                "open 1 0 0 = 1", "open 1 1 1 = 1", "open 1 2 2 = 1", "put 0 0 = 1", "put 1 1 = 1", "put 2 2 = 1",
                "take 2 3 = 12", "take 1 3 = 11", "take 0 3 = 10");
    }

    private static void ofAnotherCaller() {
        Script.run("13, 15 and 16 a descriptor is the caller's, whoever that is",
                "spawn 2 5 = 1", "table 5 0 6 3 = 1", "frame 6 0 7 3 = 1", "open 1 0 0 = 1", "open 2 0 1 = 1",
                "open 2 1 2 = 1", "table 0 0 1 3 = 1", "frame 1 0 2 3 = 1", "write 0 3 = 0", "put 0 0 = 1",
                "put 0 0 = 2", "start 2 = 1", "give 2 = 1", "write 1 4 = 0", "put 0 1 = 1", "take 0 2 = 4",
                "take 0 2 ! IllegalState", "put 1 1 = 1", "share 1 2 3 = 2", "take 3 0 = 4", "give 1 = 2",
                "take 0 1 = 3", "put 1 0 ! NoSuchElement", "take 3 0 ! NoSuchElement",
                "share 1 1 2 ! NoSuchElement");
    }
}
