/** Promises 12 to 16: descriptors and the pipes behind them. */
public final class PipesTest {
    private static final String FRAME = "table 0 0 1 3 = 1; frame 1 0 2 3 = 1";
    private static final String FULL =
            FRAME + "; open 1 0 0 = 1; write 0 10 = 0; write 1 11 = 0; write 2 12 = 0; write 3 13 = 0;"
            + "put 0 0 = 1; put 0 1 = 2; put 0 2 = 3; put 0 3 = 4";

    private PipesTest() {
    }

    public static void main(String[] args) {
        open();
        openRefused();
        share();
        shareRefused();
        close();
        put();
        putRefused();
        take();
        takeRefused();
        order();
        ofTheCaller();
        Script.finish();
    }

    private static void open() {
        Script.run("12 open: a pipe as a descriptor; answers its COUNT",
                "open 1 1 2 = 1; process 1 4 = 1; close 1 0 ! NoSuchElement; close 1 1 = 0");
        Script.run("12 open: the first and the last descriptor and pipe",
                "open 1 0 2 = 1; open 1 3 0 = 1; process 1 4 = 2");
        Script.run("12 open: for an EMBRYO and for a ZOMBIE",
                "spawn 2 5 = 1; open 2 0 0 = 1; kill 2 = 1; open 2 3 1 = 1; process 2 4 = 2; process 1 4 = 0");
        Script.run("12 open: a pipe that is no longer of any descriptor",
                "open 1 0 1 = 1; share 0 1 1 = 2; close 1 0 = 1; open 1 0 1 ! IllegalState; close 1 1 = 0",
                "open 1 2 1 = 1");
        Script.run("12 open: a pipe opened is empty", FULL,
                "close 1 0 = 0; open 1 0 0 = 1; count 3 = 0; take 0 0 ! IllegalState; put 0 1 = 1; take 0 0 = 11");
        Script.run("12 open: a pipe opened by another is empty too", FULL,
                "spawn 2 5 = 1; close 1 0 = 0; open 2 0 0 = 1; count 3 = 0; table 5 0 6 3 = 1; frame 6 0 7 3 = 1",
                "start 2 = 1; give 2 = 1; take 0 0 ! IllegalState");
    }

    private static void openRefused() {
        Script.run("12 open: the process is not MINE",
                "open 2 0 0 ! UnsupportedOperation; spawn 2 5 = 1; start 2 = 1; open 2 0 0 ! UnsupportedOperation",
                "give 2 = 1; open 1 0 0 ! UnsupportedOperation; open 2 0 0 = 1");
        Script.run("12 open: the descriptor is in use, of another pipe",
                "open 1 0 0 = 1; open 1 0 1 ! IllegalState; process 1 4 = 1; close 1 0 = 0; open 1 0 1 = 1");
        Script.run("12 open: the descriptor is in use, of the same pipe", "open 1 0 0 = 1; open 1 0 0 ! IllegalState");
        Script.run("12 open: another descriptor of the caller is of the pipe already", FULL,
                "open 1 1 0 ! IllegalState; count 3 = 4; take 0 0 = 10");
        Script.run("12 open: another descriptor, of an EMBRYO, is of the pipe already",
                "spawn 2 5 = 1; open 2 3 0 = 1; open 1 0 0 ! IllegalState; open 2 0 0 ! IllegalState");
        Script.run("12 open: another descriptor, of a ZOMBIE, is of the pipe already",
                "spawn 2 5 = 1; open 2 3 0 = 1; kill 2 = 1; open 1 0 0 ! IllegalState; close 2 3 = 0; open 1 0 0 = 1");
        Script.run("12 open: another descriptor, of one that is no child, is of the pipe already",
                "open 1 0 0 = 1; spawn 2 5 = 1; start 2 = 1; give 2 = 1; open 2 0 0 ! IllegalState; open 2 0 1 = 1");
    }

    private static void share() {
        Script.run("13 share: the same pipe as one of the caller's; answers its COUNT",
                "open 1 0 1 = 1; share 0 1 3 = 2; share 3 1 2 = 3; process 1 4 = 3; close 1 0 = 2");
        Script.run("13 share: with an EMBRYO and with a ZOMBIE",
                "open 1 0 1 = 1; spawn 2 5 = 1; share 0 2 0 = 2; kill 2 = 1; share 0 2 3 = 3; process 2 4 = 2");
        Script.run("13 share: the pipe keeps its ints", FULL,
                "share 0 1 1 = 2; count 3 = 4; close 1 0 = 1; count 3 = 4; take 1 0 = 10; take 1 0 = 11");
        Script.run("13 share: both are of one pipe", FRAME,
                "write 0 6 = 0; open 1 0 1 = 1; share 0 1 1 = 2; put 0 0 = 1; put 1 0 = 2; take 1 1 = 6; take 0 1 = 6",
                "take 1 1 ! IllegalState");
    }

    private static void shareRefused() {
        Script.run("13 share: the process is not MINE",
                "open 1 0 0 = 1; share 0 2 0 ! UnsupportedOperation; spawn 2 5 = 1; open 2 0 1 = 1; start 2 = 1",
                "share 0 2 1 ! UnsupportedOperation; give 2 = 1; share 0 1 1 ! UnsupportedOperation");
        Script.run("13 share: the caller has none there",
                "share 0 1 1 ! NoSuchElement; open 1 0 0 = 1; share 1 1 2 ! NoSuchElement",
                "share 3 1 2 ! NoSuchElement; close 1 0 = 0; share 0 1 1 ! NoSuchElement");
        Script.run("13 share: the caller has none there, but the process has",
                "spawn 2 5 = 1; open 2 0 0 = 1; share 0 2 1 ! NoSuchElement");
        Script.run("13 share: the descriptor is in use, of another pipe",
                "open 1 0 0 = 1; open 1 1 1 = 1; share 0 1 1 ! IllegalState; close 1 1 = 0; share 0 1 1 = 2");
        Script.run("13 share: the descriptor is in use, of the same pipe",
                "open 1 0 0 = 1; share 0 1 0 ! IllegalState; share 0 1 1 = 2; share 0 1 1 ! IllegalState");
        Script.run("13 share: the descriptor of a child is in use",
                "open 1 0 0 = 1; spawn 2 5 = 1; share 0 2 3 = 2; share 0 2 3 ! IllegalState; share 0 2 2 = 3");
    }

    private static void close() {
        Script.run("14 close: a descriptor; answers the pipe's COUNT, to the last",
                "open 1 0 0 = 1; share 0 1 1 = 2; spawn 2 5 = 1; share 0 2 0 = 3; close 1 0 = 2; process 1 4 = 1",
                "close 2 0 = 1; process 2 4 = 0; close 1 1 = 0; process 1 4 = 0");
        Script.run("14 close: that descriptor alone",
                "open 1 0 0 = 1; open 1 1 1 = 1; open 1 3 2 = 1; close 1 1 = 0; process 1 4 = 2; share 0 1 1 = 2",
                "share 3 1 2 = 2");
        Script.run("14 close: the pipe keeps its ints while another is of it", FULL,
                "share 0 1 3 = 2; close 1 0 = 1; count 3 = 4; take 3 0 = 10");
        Script.run("14 close: of a ZOMBIE",
                "spawn 2 5 = 1; open 2 0 0 = 1; start 2 = 1; kill 2 = 1; close 2 0 = 0; process 2 4 = 0");
        Script.run("14 close: the process is not MINE",
                "close 2 0 ! UnsupportedOperation; spawn 2 5 = 1; open 2 0 0 = 1; open 1 0 1 = 1; start 2 = 1",
                "close 2 0 ! UnsupportedOperation; give 2 = 1; close 1 0 ! UnsupportedOperation; close 2 0 = 0");
        Script.run("14 close: it has none there",
                "close 1 0 ! NoSuchElement; open 1 0 0 = 1; close 1 1 ! NoSuchElement; close 1 3 ! NoSuchElement",
                "close 1 0 = 0; close 1 0 ! NoSuchElement");
        Script.run("14 close: it has none there, but the caller has",
                "open 1 0 0 = 1; spawn 2 5 = 1; close 2 0 ! NoSuchElement; process 1 4 = 1");
    }

    private static void put() {
        Script.run("15 put: the word at an address; answers how many ints it holds", FULL,
                "take 0 0 = 10; take 0 0 = 11; take 0 0 = 12; take 0 0 = 13");
        Script.run("15 put: the word stays where it is", FULL, "read 0 = 10; read 3 = 13");
        Script.run("15 put: a later write does not reach the int", FRAME,
                "open 1 0 0 = 1; write 0 5 = 0; put 0 0 = 1; write 0 6 = 5; take 0 1 = 5");
        Script.run("15 put: the least and the greatest int", FRAME,
                "open 1 3 2 = 1; write 0 -2147483648 = 0; write 3 2147483647 = 0; put 3 0 = 1; put 3 3 = 2",
                "take 3 1 = -2147483648; take 3 1 = 2147483647");
        Script.run("15 put: the right to read is enough", FRAME,
                "open 1 0 0 = 1; protect 0 0 1 = 3; protect 1 0 1 = 3; put 0 0 = 1");
    }

    private static void putRefused() {
        Script.run("15 put: no descriptor", FRAME,
                "put 0 0 ! NoSuchElement; open 1 0 0 = 1; put 1 0 ! NoSuchElement; put 3 0 ! NoSuchElement",
                "close 1 0 = 0; put 0 0 ! NoSuchElement");
        Script.run("15 put: the table's entry lacks", "open 1 0 0 = 1; put 0 0 ! NoSuchElement", FRAME,
                "put 0 16 ! NoSuchElement; put 0 63 ! NoSuchElement");
        Script.run("15 put: the frame's entry lacks",
                "open 1 0 0 = 1; table 0 0 1 3 = 1; put 0 0 ! NoSuchElement; frame 1 0 2 3 = 1",
                "put 0 4 ! NoSuchElement; put 0 15 ! NoSuchElement");
        Script.run("15 put: no right to read in the root", FRAME,
                "open 1 0 0 = 1; protect 0 0 2 = 3; put 0 0 ! UnsupportedOperation; count 3 = 0");
        Script.run("15 put: no right to read in the table", FRAME,
                "open 1 0 0 = 1; protect 1 0 2 = 3; put 0 0 ! UnsupportedOperation; count 3 = 0");
        Script.run("15 put: the pipe is full", FULL,
                "put 0 0 ! IllegalState; count 3 = 4; take 0 0 = 10; put 0 0 = 4; put 0 0 ! IllegalState");
        Script.run("15 put: the pipe is full, by another descriptor too", FULL,
                "share 0 1 1 = 2; put 1 0 ! IllegalState");
    }

    private static void take() {
        Script.run("16 take: the first int, written to the address; answers it", FULL,
                "take 0 3 = 10; read 3 = 10; count 3 = 3; take 0 0 = 11; read 0 = 11; read 3 = 10; count 3 = 2");
        Script.run("16 take: the last int leaves the pipe empty", FRAME,
                "open 1 0 0 = 1; write 0 -5 = 0; put 0 0 = 1; take 0 1 = -5; count 3 = 0; read 0 = -5; read 1 = -5");
        Script.run("16 take: the right to write is enough", FULL,
                "protect 0 0 2 = 3; protect 1 0 2 = 3; take 0 3 = 10; protect 0 0 3 = 2; protect 1 0 3 = 2",
                "read 3 = 10");
    }

    private static void takeRefused() {
        Script.run("16 take: no descriptor", FULL,
                "take 1 0 ! NoSuchElement; take 3 0 ! NoSuchElement; close 1 0 = 0; take 0 0 ! NoSuchElement");
        Script.run("16 take: the table's entry lacks", FULL, "take 0 16 ! NoSuchElement; take 0 63 ! NoSuchElement");
        Script.run("16 take: the frame's entry lacks", FULL, "take 0 4 ! NoSuchElement; take 0 15 ! NoSuchElement");
        Script.run("16 take: no right to write in the root", FULL,
                "protect 0 0 1 = 3; take 0 3 ! UnsupportedOperation; count 3 = 4; read 3 = 13");
        Script.run("16 take: no right to write in the table", FULL,
                "protect 1 0 1 = 3; take 0 3 ! UnsupportedOperation; count 3 = 4; read 3 = 13");
        Script.run("16 take: the pipe is empty", FRAME,
                "open 1 0 0 = 1; write 0 3 = 0; take 0 0 ! IllegalState; read 0 = 3; put 0 0 = 1; take 0 1 = 3",
                "take 0 0 ! IllegalState");
        Script.run("16 take: the pipe is empty, though others are not", FULL,
                "open 1 1 1 = 1; open 1 2 2 = 1; take 1 0 ! IllegalState; take 2 0 ! IllegalState; count 3 = 4");
    }

    private static void order() {
        Script.run("15 and 16: ints come out in the order they went in, though room is used again",
                FRAME, "frame 1 1 3 3 = 1; write 0 10 = 0; write 1 11 = 0; write 2 12 = 0; write 3 13 = 0",
                "open 1 0 2 = 1; share 0 1 3 = 2; put 0 0 = 1; put 3 1 = 2; put 0 2 = 3; take 3 4 = 10; put 0 3 = 3",
                "put 0 0 = 4; take 0 5 = 11; take 0 6 = 12; put 0 1 = 3; take 3 7 = 13; take 3 4 = 10; take 3 4 = 11",
                "take 3 4 ! IllegalState; read 4 = 11; read 5 = 11; read 6 = 12; read 7 = 13");
        Script.run("15 and 16: pipes are apart", FRAME,
                "write 0 10 = 0; write 1 11 = 0; write 2 12 = 0; open 1 0 0 = 1; open 1 1 1 = 1; open 1 2 2 = 1",
                "put 0 0 = 1; put 1 1 = 1; put 2 2 = 1; take 2 3 = 12; take 1 3 = 11; take 0 3 = 10");
    }

    private static void ofTheCaller() {
        String two = "spawn 2 5 = 1; table 5 0 6 3 = 1; frame 6 0 7 3 = 1; start 2 = 1;" + FRAME;
        Script.run("13, 15 and 16: a descriptor is the caller's, whoever that is", two,
                "open 1 0 0 = 1; write 0 3 = 0; put 0 0 = 1; give 2 = 1; put 0 0 ! NoSuchElement",
                "take 0 0 ! NoSuchElement; share 0 2 1 ! NoSuchElement; open 2 0 1 = 1; take 0 0 ! IllegalState",
                "write 0 4 = 0; put 0 0 = 1; give 1 = 2; take 0 1 = 3; take 0 1 ! IllegalState");
        Script.run("15 and 16: an int goes from one process to another",
                "spawn 2 5 = 1; table 5 0 6 3 = 1; frame 6 0 7 3 = 1; open 1 2 0 = 1; share 2 2 1 = 2; start 2 = 1",
                FRAME, "write 3 77 = 0; put 2 3 = 1; give 2 = 1; take 1 0 = 77; read 0 = 77; read 3 = 0; give 1 = 2",
                "read 0 = 0; take 2 0 ! IllegalState");
    }
}
