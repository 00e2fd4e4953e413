/**
 * What is thrown is told in the order of testing: calls for which two exceptions are due, of which
 * only the first may come.
 */
public final class OrderTest {
    private static final String FRAME = "table 0 0 1 3 = 1; frame 1 0 2 3 = 1";
    private static final String READY_CHILD = "spawn 2 5 = 1; table 5 0 6 3 = 1; frame 6 0 7 3 = 1; start 2 = 1";

    private OrderTest() {
    }

    public static void main(String[] args) {
        rangesFirstOfPages();
        rangesFirstOfProcesses();
        rangesFirstOfPipes();
        rangesFirstOfAddresses();
        table();
        frame();
        protectAndRelease();
        kill();
        open();
        shareAndClose();
        put();
        take();
        readAndWrite();
        expectAndSend();
        Script.finish();
    }

    private static void rangesFirstOfPages() {
        Script.run("IllegalArgument first: table", FRAME,
                "table 1 4 0 3 ! IllegalArgument; table 1 0 20 3 ! IllegalArgument; table 1 0 0 0 ! IllegalArgument",
                "table 20 0 0 3 ! IllegalArgument; table 0 0 0 4 ! IllegalArgument; table 0 0 -1 3 ! IllegalArgument",
                "table 0 -1 0 3 ! IllegalArgument");
        Script.run("IllegalArgument first: frame", FRAME,
                "frame 0 4 0 3 ! IllegalArgument; frame 0 0 20 3 ! IllegalArgument; frame 0 0 0 0 ! IllegalArgument",
                "frame 20 0 0 3 ! IllegalArgument; frame 1 0 2 4 ! IllegalArgument; frame 1 0 -1 3 ! IllegalArgument",
                "frame 1 -1 2 3 ! IllegalArgument");
        Script.run("IllegalArgument first: protect", FRAME,
                "protect 2 4 3 ! IllegalArgument; protect 2 0 0 ! IllegalArgument; protect 0 1 4 ! IllegalArgument",
                "protect 20 1 3 ! IllegalArgument");
        Script.run("IllegalArgument first: copy", FRAME,
                "copy 1 20 ! IllegalArgument; copy 20 1 ! IllegalArgument; copy -1 3 ! IllegalArgument",
                "copy 3 -1 ! IllegalArgument");
        Script.run("IllegalArgument first: release", FRAME,
                "release 2 4 ! IllegalArgument; release 2 -1 ! IllegalArgument; release 20 0 ! IllegalArgument");
    }

    private static void rangesFirstOfProcesses() {
        Script.run("IllegalArgument first: spawn",
                "spawn 1 20 ! IllegalArgument; spawn 1 -1 ! IllegalArgument; spawn 0 0 ! IllegalArgument",
                "spawn 6 0 ! IllegalArgument");
        Script.run("IllegalArgument first: start, give, kill and reap",
                "start 0 ! IllegalArgument; start 6 ! IllegalArgument; give 0 ! IllegalArgument",
                "give 6 ! IllegalArgument; kill 0 ! IllegalArgument; kill 6 ! IllegalArgument",
                "reap 0 ! IllegalArgument; reap 6 ! IllegalArgument");
    }

    private static void rangesFirstOfPipes() {
        Script.run("IllegalArgument first: open", "open 1 0 0 = 1",
                "open 2 4 0 ! IllegalArgument; open 2 0 3 ! IllegalArgument; open 6 0 0 ! IllegalArgument",
                "open 1 0 3 ! IllegalArgument; open 1 4 0 ! IllegalArgument; open 0 0 0 ! IllegalArgument");
        Script.run("IllegalArgument first: share", "open 1 0 0 = 1",
                "share 4 2 0 ! IllegalArgument; share 1 2 4 ! IllegalArgument; share 1 6 0 ! IllegalArgument",
                "share 4 1 0 ! IllegalArgument; share 0 0 0 ! IllegalArgument; share 1 1 -1 ! IllegalArgument");
        Script.run("IllegalArgument first: close",
                "close 2 4 ! IllegalArgument; close 2 -1 ! IllegalArgument; close 6 0 ! IllegalArgument",
                "close 0 0 ! IllegalArgument");
        Script.run("IllegalArgument first: put",
                "put 0 64 ! IllegalArgument; put 0 -1 ! IllegalArgument; put 4 0 ! IllegalArgument",
                "put -1 0 ! IllegalArgument; open 1 0 0 = 1", FRAME,
                "put 0 0 = 1; put 0 0 = 2; put 0 0 = 3; put 0 0 = 4; put 0 64 ! IllegalArgument",
                "protect 0 0 2 = 3; put 4 0 ! IllegalArgument");
        Script.run("IllegalArgument first: take",
                "take 0 64 ! IllegalArgument; take 0 -1 ! IllegalArgument; take 4 0 ! IllegalArgument",
                "take -1 0 ! IllegalArgument; open 1 0 0 = 1", FRAME,
                "take 0 64 ! IllegalArgument; protect 0 0 1 = 3; take 4 0 ! IllegalArgument");
    }

    private static void rangesFirstOfAddresses() {
        Script.run("IllegalArgument first: read and write",
                "read 64 ! IllegalArgument; read -1 ! IllegalArgument; write 64 0 ! IllegalArgument",
                "write -1 0 ! IllegalArgument");
        Script.run("IllegalArgument first: expect",
                "expect 2 64 ! IllegalArgument; expect 2 -1 ! IllegalArgument; expect 0 0 ! IllegalArgument",
                "expect 6 0 ! IllegalArgument", READY_CHILD, FRAME, "expect 6 4 ! IllegalArgument",
                "expect 6 0 ! IllegalArgument; expect 2 64 ! IllegalArgument");
        Script.run("IllegalArgument first: send",
                "send 2 64 ! IllegalArgument; send 2 -1 ! IllegalArgument; send 0 0 ! IllegalArgument",
                "send 6 0 ! IllegalArgument");
        Script.run("IllegalArgument first: process, page and count",
                "process 0 5 ! IllegalArgument; process 0 0 ! IllegalArgument; process 1 5 ! IllegalArgument",
                "page 20 3 ! IllegalArgument; page 20 0 ! IllegalArgument; page 0 3 ! IllegalArgument",
                "count 4 ! IllegalArgument; count -1 ! IllegalArgument");
    }

    private static void table() {
        Script.run("table: no ROOT that is MINE before a page that is not free",
                READY_CHILD, "table 5 1 0 3 ! UnsupportedOperation; table 6 1 0 3 ! UnsupportedOperation");
        Script.run("table: no ROOT that is MINE before an entry that is not empty",
                READY_CHILD, "table 5 0 9 3 ! UnsupportedOperation; table 6 0 9 3 ! UnsupportedOperation");
    }

    private static void frame() {
        Script.run("frame: no TABLE that is MINE before a page that is not free",
                READY_CHILD, "frame 6 1 0 3 ! UnsupportedOperation; frame 0 1 0 3 ! UnsupportedOperation");
        Script.run("frame: no TABLE that is MINE before an entry that is not empty",
                READY_CHILD, FRAME, "frame 6 0 9 3 ! UnsupportedOperation; frame 0 0 9 3 ! UnsupportedOperation");
    }

    private static void protectAndRelease() {
        Script.run("protect: no ROOT or TABLE that is MINE before an empty entry", READY_CHILD, FRAME,
                "protect 5 1 3 ! UnsupportedOperation; protect 6 1 3 ! UnsupportedOperation",
                "protect 2 1 3 ! UnsupportedOperation; protect 9 1 3 ! UnsupportedOperation");
        Script.run("release: no ROOT or TABLE that is MINE before an empty entry", READY_CHILD, FRAME,
                "release 5 1 ! UnsupportedOperation; release 6 1 ! UnsupportedOperation",
                "release 2 1 ! UnsupportedOperation; release 9 1 ! UnsupportedOperation");
        Script.run("release: no ROOT or TABLE that is MINE before a table with an entry", READY_CHILD,
                "release 5 0 ! UnsupportedOperation");
    }

    private static void kill() {
        Script.run("kill: process 1 before the caller when none is READY", "kill 1 ! UnsupportedOperation");
        Script.run("kill: process 1 before one that is neither the caller nor its child", READY_CHILD,
                "give 2 = 1; kill 1 ! UnsupportedOperation");
    }

    private static void open() {
        Script.run("open: not MINE before a descriptor in use",
                "spawn 2 5 = 1; open 2 0 0 = 1; start 2 = 1; open 2 0 1 ! UnsupportedOperation");
        Script.run("open: not MINE before a pipe that is open",
                "spawn 2 5 = 1; open 2 0 0 = 1; start 2 = 1; open 2 1 0 ! UnsupportedOperation",
                "open 3 1 0 ! UnsupportedOperation");
    }

    private static void shareAndClose() {
        String shared = "open 1 0 0 = 1; spawn 2 5 = 1; share 0 2 0 = 2; start 2 = 1";
        Script.run("share: not MINE before no descriptor of the caller's", shared,
                "share 1 2 1 ! UnsupportedOperation; share 1 3 1 ! UnsupportedOperation");
        Script.run("share: not MINE before a descriptor in use", shared, "share 0 2 0 ! UnsupportedOperation");
        Script.run("share: no descriptor of the caller's before a descriptor in use", shared,
                "share 1 1 0 ! NoSuchElement; kill 2 = 1; share 1 2 0 ! NoSuchElement");
        Script.run("close: not MINE before no descriptor", shared,
                "close 2 1 ! UnsupportedOperation; close 3 0 ! UnsupportedOperation");
    }

    private static void put() {
        String full = FRAME + "; open 1 0 0 = 1; put 0 0 = 1; put 0 0 = 2; put 0 0 = 3; put 0 0 = 4";
        Script.run("put: no descriptor before no right to read", FRAME, "protect 1 0 2 = 3; put 0 0 ! NoSuchElement");
        Script.run("put: an entry that lacks before no right to read", "table 0 0 1 2 = 1; open 1 0 0 = 1",
                "put 0 0 ! NoSuchElement");
        Script.run("put: an entry that lacks before a full pipe", full,
                "put 0 4 ! NoSuchElement; put 0 16 ! NoSuchElement");
        Script.run("put: no right to read before a full pipe", full,
                "protect 1 0 2 = 3; put 0 0 ! UnsupportedOperation; protect 1 0 1 = 2; protect 0 0 2 = 3",
                "put 0 0 ! UnsupportedOperation");
    }

    private static void take() {
        String empty = FRAME + "; open 1 0 0 = 1";
        Script.run("take: no descriptor before no right to write", FRAME,
                "protect 1 0 1 = 3; take 0 0 ! NoSuchElement");
        Script.run("take: an entry that lacks before no right to write", "table 0 0 1 1 = 1; open 1 0 0 = 1",
                "take 0 0 ! NoSuchElement");
        Script.run("take: an entry that lacks before an empty pipe", empty,
                "take 0 4 ! NoSuchElement; take 0 16 ! NoSuchElement");
        Script.run("take: no right to write before an empty pipe", empty,
                "protect 1 0 1 = 3; take 0 0 ! UnsupportedOperation; protect 1 0 2 = 1; protect 0 0 1 = 3",
                "take 0 0 ! UnsupportedOperation");
    }

    private static void readAndWrite() {
        Script.run("read: an entry that lacks before no right to read", "table 0 0 1 2 = 1; read 0 ! NoSuchElement");
        Script.run("write: an entry that lacks before no right to write",
                "table 0 0 1 1 = 1; write 0 5 ! NoSuchElement");
    }

    private static void expectAndSend() {
        Script.run("expect: one that is not ready before no table entry",
                "expect 1 0 ! IllegalState; expect 2 0 ! IllegalState");
        Script.run("expect: one that is not ready before a frame entry that is not empty", FRAME,
                "expect 1 0 ! IllegalState; expect 2 0 ! IllegalState");
        Script.run("send: one that is not WAITING before an entry that lacks", READY_CHILD,
                "send 1 0 ! IllegalState; send 2 0 ! IllegalState; table 0 0 1 3 = 1; send 2 0 ! IllegalState");
    }
}
