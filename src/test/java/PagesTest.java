/** Promises 1, 3 to 7, 17, 18 and 22: pages, their entries, and words at addresses. */
public final class PagesTest {
    private PagesTest() {
    }

    public static void main(String[] args) {
        newObject();
        table();
        frame();
        protect();
        copy();
        release();
        readAndWrite();
        page();
        pagesOfChildren();
        Script.finish();
    }

    private static void newObject() {
        Script.run("1 a new object",
                "count 0 = 1", "count 1 = 19", "count 2 = 1", "count 3 = 0",
                "process 1 0 = 3", "process 1 1 = 0", "process 1 2 = 0", "process 1 3 = 1", "process 1 4 = 0",
                "process 2 0 = 0", "process 2 1 = 0", "process 2 2 = -1", "process 2 3 = 0", "process 2 4 = 0",
                "process 5 0 = 0", "process 5 2 = -1",
                "page 0 0 = 1", "page 0 1 = 1", "page 0 2 = 0",
                "page 1 0 = 0", "page 1 1 = 0", "page 1 2 = 0", "page 19 0 = 0");
    }

    private static void table() {
        Script.run("3 table",
                "table 0 3 19 2 = 1", "page 19 0 = 2", "page 19 1 = 1", "page 19 2 = 0", "page 0 2 = 1",
                "protect 0 3 1 = 2",
                "table 0 3 18 1 ! IllegalState", "table 0 2 19 1 ! IllegalState", "table 0 2 0 1 ! IllegalState",
                "table 19 0 1 1 ! UnsupportedOperation", "table 1 0 2 1 ! UnsupportedOperation",
                "frame 19 0 5 1 = 1", "table 5 0 6 1 ! UnsupportedOperation",
                "table 19 3 19 1 ! UnsupportedOperation");
        Script.run("3 table of another's root",
                "spawn 2 5 = 1", "table 5 0 6 3 = 1", "page 6 1 = 2", "start 2 = 1",
                "table 5 1 7 3 ! UnsupportedOperation", "table 5 0 0 3 ! UnsupportedOperation",
                "give 2 = 1", "table 0 0 7 3 ! UnsupportedOperation", "table 5 1 7 3 = 1");
        Script.run("3 a page used again is empty",
                "table 0 0 1 3 = 1", "frame 1 2 2 3 = 1", "release 1 2 = 2", "release 0 0 = 1",
                "table 0 1 2 3 = 1", "page 2 2 = 0", "frame 2 0 1 3 = 1", "read 16 = 0");
    }

    private static void frame() {
        Script.run("4 frame",
                "frame 0 0 2 1 ! UnsupportedOperation", "frame 1 0 2 1 ! UnsupportedOperation",
                "table 0 1 1 3 = 1", "frame 1 3 2 3 = 1",
                "page 2 0 = 3", "page 2 1 = 1", "page 1 2 = 1", "read 31 = 0", "process 1 3 = 3",
                "frame 1 3 3 1 ! IllegalState", "frame 1 2 2 1 ! IllegalState", "frame 1 2 1 1 ! IllegalState",
                "frame 2 0 3 1 ! UnsupportedOperation", "frame 1 0 3 1 = 1", "write 16 4 ! UnsupportedOperation");
        Script.run("4 a frame used again has words 0",
                "table 0 0 1 3 = 1", "frame 1 0 2 3 = 1", "write 0 9 = 0", "write 3 8 = 0",
                "release 1 0 = 2", "frame 1 0 2 3 = 1", "read 0 = 0", "read 3 = 0");
    }

    private static void protect() {
        Script.run("5 protect",
                "protect 0 0 1 ! NoSuchElement", "protect 1 0 1 ! UnsupportedOperation",
                "table 0 0 1 3 = 1", "protect 1 0 1 ! NoSuchElement", "frame 1 0 2 3 = 1",
                "protect 1 0 1 = 3", "protect 1 0 2 = 1", "protect 1 0 2 = 2", "protect 0 0 1 = 3",
                "protect 2 0 1 ! UnsupportedOperation", "page 1 2 = 1", "page 0 2 = 1");
        Script.run("5 protect of a child's page",
                "spawn 2 5 = 1", "table 5 0 6 1 = 1", "protect 5 0 3 = 1", "start 2 = 1",
                "protect 5 0 1 ! UnsupportedOperation", "protect 5 1 1 ! UnsupportedOperation",
                "kill 2 = 0", "protect 5 0 1 = 3");
    }

    private static void copy() {
        Script.run("6 copy",
                "table 0 0 1 3 = 1", "frame 1 0 2 3 = 1", "frame 1 1 3 1 = 1",
                "write 0 1 = 0", "write 1 -2 = 0", "write 2 2147483647 = 0", "write 3 -2147483648 = 0",
                "copy 2 3 = 1", "read 4 = 1", "read 5 = -2", "read 6 = 2147483647", "read 7 = -2147483648",
                "write 0 5 = 1", "read 4 = 1", "copy 2 2 = 1", "read 0 = 5",
                "copy 2 1 ! UnsupportedOperation", "copy 1 2 ! UnsupportedOperation",
                "copy 0 2 ! UnsupportedOperation", "copy 2 9 ! UnsupportedOperation",
                "copy 9 2 ! UnsupportedOperation", "copy 3 2 = 1", "read 0 = 1");
        Script.run("6 copy of four words and no more",
                "table 0 0 1 3 = 1", "frame 1 0 2 3 = 1", "frame 1 1 3 3 = 1", "frame 1 2 4 3 = 1",
                "write 3 1 = 0", "write 4 2 = 0", "write 8 3 = 0", "copy 2 3 = 1", "read 3 = 1", "read 4 = 0",
                "read 7 = 1", "read 8 = 3", "copy 4 2 = 1", "read 0 = 3", "read 4 = 0", "read 7 = 1");
        Script.run("6 copy to and from a child",
                "spawn 2 5 = 1", "table 5 0 6 3 = 1", "frame 6 0 7 3 = 1",
                "table 0 0 1 3 = 1", "frame 1 0 2 3 = 1", "write 2 6 = 0", "copy 2 7 = 1", "start 2 = 1",
                "copy 2 7 ! UnsupportedOperation", "copy 7 2 ! UnsupportedOperation",
                "give 2 = 1", "read 2 = 6", "write 2 9 = 6", "kill 2 = 0", "copy 7 2 = 1", "read 2 = 9");
    }

    private static void release() {
        Script.run("7 release",
                "release 0 0 ! NoSuchElement", "release 1 0 ! UnsupportedOperation",
                "table 0 2 1 3 = 1", "frame 1 3 2 3 = 1", "release 2 0 ! UnsupportedOperation",
                "release 0 2 ! IllegalState", "release 1 0 ! NoSuchElement", "release 1 3 = 2",
                "page 2 0 = 0", "page 2 1 = 0", "page 1 2 = 0", "read 44 ! NoSuchElement",
                "release 1 3 ! NoSuchElement", "release 0 2 = 1", "page 1 0 = 0", "page 0 2 = 0",
                "count 1 = 19", "release 1 3 ! UnsupportedOperation", "process 1 3 = 1");
        Script.run("7 release of a frame that has words",
                "table 0 0 1 3 = 1", "frame 1 0 2 3 = 1", "write 0 7 = 0", "release 1 0 = 2");
        Script.run("7 release of a child's page",
                "spawn 2 5 = 1", "table 5 0 6 1 = 1", "start 2 = 1", "release 5 0 ! UnsupportedOperation",
                "kill 2 = 0", "release 5 0 = 6", "count 1 = 18");
    }

    private static void readAndWrite() {
        Script.run("17 and 18 read and write",
                "read 0 ! NoSuchElement", "write 0 1 ! NoSuchElement", "table 0 0 1 1 = 1",
                "read 0 ! NoSuchElement", "write 0 1 ! NoSuchElement", "frame 1 0 2 2 = 1",
                "read 0 ! UnsupportedOperation", "write 0 1 ! UnsupportedOperation",
                "protect 0 0 2 = 1", "read 0 ! UnsupportedOperation", "write 0 1 = 0", "write 0 2 = 1",
                "protect 0 0 3 = 2", "read 0 ! UnsupportedOperation", "protect 1 0 1 = 2",
                "read 0 = 2", "write 0 3 ! UnsupportedOperation", "read 0 = 2",
                "protect 0 0 1 = 3", "protect 1 0 3 = 1", "read 0 = 2", "write 0 3 ! UnsupportedOperation",
                "read 4 ! NoSuchElement", "read 16 ! NoSuchElement", "write 63 0 ! NoSuchElement");
        Script.run("17 and 18 every part of an address",
                "table 0 3 10 3 = 1", "frame 10 0 11 3 = 1", "frame 10 3 12 3 = 1", "table 0 1 13 3 = 1",
                "frame 13 2 14 3 = 1", "write 48 1 = 0", "write 51 2 = 0", "write 60 3 = 0", "write 63 4 = 0",
                "write 24 5 = 0", "write 27 -2147483648 = 0",
                "read 48 = 1", "read 49 = 0", "read 51 = 2", "read 60 = 3", "read 63 = 4", "read 24 = 5",
                "read 27 = -2147483648", "read 52 ! NoSuchElement", "read 23 ! NoSuchElement",
                "read 28 ! NoSuchElement");
        Script.run("17 read of the caller's own addresses",
                "table 0 0 1 3 = 1", "frame 1 0 2 3 = 1", "write 0 7 = 0", "spawn 2 5 = 1", "start 2 = 1",
                "give 2 = 1", "read 0 ! NoSuchElement", "write 0 7 ! NoSuchElement",
                "table 5 0 6 3 = 1", "frame 6 0 7 3 = 1", "read 0 = 0", "write 0 8 = 0", "give 1 = 2", "read 0 = 7");
    }

    private static void page() {
        Script.run("22 page",
                "table 0 0 1 3 = 1", "table 0 3 2 3 = 1", "frame 1 0 3 3 = 1", "frame 1 1 4 3 = 1",
                "frame 1 2 5 3 = 1", "frame 1 3 6 3 = 1", "write 0 1 = 0", "write 3 1 = 0",
                "page 0 2 = 2", "page 1 2 = 4", "page 2 2 = 0", "page 3 2 = 0", "page 3 0 = 3", "page 3 1 = 1",
                "page 7 0 = 0", "page 7 1 = 0", "page 7 2 = 0", "count 1 = 13", "process 1 3 = 7");
    }

    private static void pagesOfChildren() {
        Script.run("MINE is not a grandchild's page",
                "spawn 2 5 = 1", "start 2 = 1", "give 2 = 1", "spawn 3 6 = 1", "table 6 0 7 3 = 1",
                "give 1 = 2", "table 6 1 8 3 ! UnsupportedOperation", "frame 7 0 8 3 ! UnsupportedOperation",
                "protect 6 0 1 ! UnsupportedOperation", "release 6 0 ! UnsupportedOperation",
                "kill 2 = 0", "release 6 0 ! UnsupportedOperation", "reap 2 = 1", "release 6 0 = 7");
        Script.run("MINE is not the parent's page",
                "spawn 2 5 = 1", "start 2 = 1", "table 0 0 1 3 = 1", "frame 1 0 2 3 = 1", "give 2 = 1",
                "release 1 0 ! UnsupportedOperation", "protect 0 0 1 ! UnsupportedOperation",
                "frame 1 1 3 3 ! UnsupportedOperation", "copy 2 2 ! UnsupportedOperation");
    }
}
