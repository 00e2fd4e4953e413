/**
 * A call that throws changes nothing. Every throwing row of every script is asked for that; here
 * are kernels in which each call could spoil the most, so that a change would show.
 */
public final class UnchangedTest {
    private static final String FRAME = "table 0 0 1 3 = 1; frame 1 0 2 3 = 1; write 0 10 = 0; write 3 13 = 0";
    private static final String PIPE = "open 1 0 0 = 1; put 0 0 = 1; put 0 3 = 2";
    private static final String READY_CHILD = "spawn 2 5 = 1; table 5 0 6 3 = 1; frame 6 0 7 3 = 1; start 2 = 1";
    private static final String PIPE_AS_IT_WAS = "count 3 = 2; take 0 1 = 10; take 0 1 = 13; take 0 1 ! IllegalState";

    private UnchangedTest() {
    }

    public static void main(String[] args) {
        pages();
        processes();
        descriptors();
        pipes();
        words();
        messages();
        Script.finish();
    }

    private static void pages() {
        Script.run("unchanged by table: the entry, its rights, and the page", FRAME,
                "protect 0 0 1 = 3; table 0 0 9 2 ! IllegalState; protect 0 0 3 = 1; page 9 0 = 0; page 9 1 = 0",
                "table 0 1 2 3 ! IllegalState; page 0 2 = 1; page 2 0 = 3; read 0 = 10; read 3 = 13");
        Script.run("unchanged by frame: the entry, its rights, and the page's words", FRAME,
                "protect 1 0 1 = 3; frame 1 0 9 2 ! IllegalState; protect 1 0 3 = 1; page 9 0 = 0",
                "frame 1 1 2 3 ! IllegalState; page 1 2 = 1; read 0 = 10; read 3 = 13");
        Script.run("unchanged by protect: the rights", FRAME,
                "protect 1 0 0 ! IllegalArgument; protect 1 0 4 ! IllegalArgument; protect 1 0 3 = 3",
                "protect 1 1 1 ! NoSuchElement; page 1 2 = 1; frame 1 1 3 2 = 1; protect 1 1 3 = 2");
        Script.run("unchanged by copy: the words of both", FRAME, READY_CHILD,
                "copy 2 7 ! UnsupportedOperation; copy 7 2 ! UnsupportedOperation; read 0 = 10; give 2 = 1",
                "read 0 = 0");
        Script.run("unchanged by release: the table and its frames", FRAME,
                "protect 0 0 1 = 3; release 0 0 ! IllegalState; protect 0 0 3 = 1; read 0 = 10; page 1 0 = 2",
                "count 1 = 17");
    }

    private static void processes() {
        Script.run("unchanged by spawn: the page and the process", FRAME,
                "spawn 2 0 ! IllegalState; page 0 2 = 1; page 0 1 = 1; process 2 0 = 0; process 2 2 = -1; read 0 = 10",
                "spawn 1 9 ! IllegalState; page 9 0 = 0; process 1 2 = 0; process 1 0 = 3");
        Script.run("unchanged by start and give: the states",
                "spawn 2 5 = 1; give 2 ! IllegalState; start 1 ! IllegalState; give 3 ! IllegalState; process 2 0 = 1",
                "process 1 0 = 3; count 0 = 1");
        Script.run("unchanged by kill of the caller when none is READY: it runs on", READY_CHILD, FRAME,
                "expect 2 4 = 2; kill 2 ! IllegalState; process 2 0 = 3; count 0 = 2; process 1 0 = 4; read 0 = 0");
        Script.run("unchanged by kill: the parent, and one that is no child", READY_CHILD,
                "spawn 3 8 = 1; start 3 = 1; give 2 = 1; kill 1 ! UnsupportedOperation; kill 3 ! IllegalState",
                "process 1 0 = 2; process 3 0 = 2; give 3 = 2");
        Script.run("unchanged by reap: the zombie, its root and its children", READY_CHILD,
                "give 2 = 1; spawn 3 8 = 1; give 1 = 2; kill 2 = 0; reap 2 ! IllegalState; process 2 0 = 5",
                "process 2 2 = 5; page 5 0 = 1; process 3 1 = 2; release 6 0 = 7; release 5 0 = 6; reap 2 = 1");
    }

    private static void descriptors() {
        Script.run("unchanged by open: the ints in a pipe that is open", FRAME, PIPE,
                "open 1 1 0 ! IllegalState; open 1 0 0 ! IllegalState; process 1 4 = 1", PIPE_AS_IT_WAS);
        Script.run("unchanged by open: the pipe of a descriptor in use", FRAME, PIPE,
                "open 1 0 1 ! IllegalState; open 1 1 1 = 1", PIPE_AS_IT_WAS);
        Script.run("unchanged by share: the pipe of a descriptor in use", FRAME, PIPE,
                "open 1 1 1 = 1; share 1 1 0 ! IllegalState; close 1 1 = 0", PIPE_AS_IT_WAS);
        Script.run("unchanged by share: the COUNT", FRAME, PIPE, READY_CHILD,
                "share 0 2 0 ! UnsupportedOperation; share 1 1 2 ! NoSuchElement; share 0 1 0 ! IllegalState",
                "share 0 1 1 = 2");
        Script.run("unchanged by close: the COUNT", FRAME, PIPE,
                "close 1 1 ! NoSuchElement; close 2 0 ! UnsupportedOperation; share 0 1 1 = 2", PIPE_AS_IT_WAS);
    }

    private static void pipes() {
        Script.run("unchanged by put: a full pipe", FRAME, PIPE,
                "put 0 1 = 3; put 0 2 = 4; put 0 3 ! IllegalState; put 0 3 ! IllegalState; take 0 1 = 10",
                "take 0 1 = 13; take 0 1 = 0; take 0 1 = 0; take 0 1 ! IllegalState");
        Script.run("unchanged by put without the right: the pipe", FRAME, PIPE,
                "protect 1 0 2 = 3; put 0 0 ! UnsupportedOperation; put 0 4 ! NoSuchElement; protect 1 0 3 = 2",
                PIPE_AS_IT_WAS);
        Script.run("unchanged by take without the right: the pipe and the word", FRAME, PIPE,
                "protect 1 0 1 = 3; take 0 3 ! UnsupportedOperation; take 0 4 ! NoSuchElement; read 3 = 13",
                "protect 1 0 3 = 1", PIPE_AS_IT_WAS);
        Script.run("unchanged by take from an empty pipe: the word and the pipe", FRAME,
                "open 1 0 0 = 1; take 0 0 ! IllegalState; take 0 0 ! IllegalState; read 0 = 10; put 0 0 = 1",
                "take 0 1 = 10");
    }

    private static void words() {
        Script.run("unchanged by read: the word", FRAME, "protect 1 0 2 = 3; read 0 ! UnsupportedOperation",
                "write 0 5 = 10");
        Script.run("unchanged by write: the word", FRAME,
                "protect 1 0 1 = 3; write 0 5 ! UnsupportedOperation; read 0 = 10; protect 0 0 1 = 3",
                "protect 1 0 3 = 1; write 0 5 ! UnsupportedOperation; read 0 = 10");
    }

    private static void messages() {
        Script.run("unchanged by expect: the states", FRAME, READY_CHILD,
                "expect 2 0 ! UnsupportedOperation; expect 2 16 ! NoSuchElement; expect 3 4 ! IllegalState",
                "process 1 0 = 3; process 2 0 = 2; count 0 = 1; read 0 = 10");
        Script.run("unchanged by send: the frame, its owner and its rights", FRAME, READY_CHILD,
                "protect 1 0 1 = 3; send 2 0 ! IllegalState; page 2 1 = 1; read 0 = 10; protect 1 0 3 = 1");
        Script.run("unchanged by send: it waits on, for the same entry", FRAME, READY_CHILD,
                "give 2 = 1; expect 1 8 = 1; send 2 4 ! NoSuchElement; send 2 16 ! NoSuchElement; process 2 0 = 4",
                "page 6 2 = 1; send 2 0 = 2; give 2 = 1; read 8 = 10; read 11 = 13; read 0 = 0");
    }
}
