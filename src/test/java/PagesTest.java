/** Promises 3 to 7 and 22: pages and their entries. */
public final class PagesTest {
    private static final String FRAME = "table 0 0 1 3 = 1; frame 1 0 2 3 = 1";
    private static final String CHILD = "spawn 2 5 = 1; table 5 0 6 3 = 1; frame 6 0 7 3 = 1";

    private PagesTest() {
    }

    public static void main(String[] args) {
        table();
        tableRefused();
        frame();
        frameRefused();
        protect();
        protectRefused();
        copy();
        copyRefused();
        release();
        releaseRefused();
        page();
        Script.finish();
    }

    private static void table() {
        Script.run("3 table: a FREE page becomes a table in an entry of that root",
                "table 0 2 9 3 = 1; page 9 0 = 2; page 9 1 = 1; page 9 2 = 0; page 0 2 = 1; process 1 3 = 2",
                "count 1 = 18; frame 9 1 10 3 = 1; read 36 = 0; release 9 1 = 10; release 0 2 = 9");
        Script.run("3 table: of the owner of the root, not of the caller",
                "spawn 2 5 = 1; table 5 0 6 3 = 1; page 6 1 = 2; process 2 3 = 2; process 1 3 = 1; page 5 2 = 1");
        Script.run("3 table: the first and the last entry, page and rights",
                "table 0 0 1 1 = 1; table 0 3 19 3 = 1; page 1 0 = 2; page 19 0 = 2; protect 0 0 2 = 1",
                "protect 0 3 2 = 3");
        Script.run("3 table: the entry has the rights that are told",
                "table 0 1 1 2 = 1; protect 0 1 1 = 2; table 0 2 2 1 = 1; protect 0 2 3 = 1");
    }

    private static void tableRefused() {
        Script.run("3 table: root is no ROOT: a FREE page", "table 9 0 1 3 ! UnsupportedOperation");
        Script.run("3 table: root is no ROOT: a TABLE", FRAME, "table 1 1 3 3 ! UnsupportedOperation");
        Script.run("3 table: root is no ROOT: a FRAME", FRAME, "table 2 0 3 3 ! UnsupportedOperation");
        Script.run("3 table: root is no ROOT that is MINE", CHILD, "start 2 = 1; table 5 1 9 3 ! UnsupportedOperation");
        Script.run("3 table: page is not free: a ROOT", "table 0 0 0 3 ! IllegalState; spawn 2 5 = 1",
                "table 0 0 5 3 ! IllegalState");
        Script.run("3 table: page is not free: a TABLE", FRAME, "table 0 1 1 3 ! IllegalState");
        Script.run("3 table: page is not free: a FRAME", FRAME, "table 0 1 2 3 ! IllegalState");
        Script.run("3 table: the entry is not empty", FRAME, "table 0 0 3 3 ! IllegalState; read 0 = 0");
        Script.run("3 table: the entry is empty again", FRAME,
                "release 1 0 = 2; release 0 0 = 1; table 0 0 3 1 = 1; protect 0 0 3 = 1");
    }

    private static void frame() {
        Script.run("4 frame: a FREE page becomes a frame in an entry of a table",
                "table 0 1 1 3 = 1; frame 1 2 9 3 = 1; page 9 0 = 3; page 9 1 = 1; page 1 2 = 1; process 1 3 = 3",
                "count 1 = 17; write 27 4 = 0; read 27 = 4");
        Script.run("4 frame: of the owner of the table, not of the caller",
                CHILD, "page 7 1 = 2; process 2 3 = 3; process 1 3 = 1; page 6 2 = 1");
        Script.run("4 frame: the first and the last entry, page and rights",
                "table 0 3 1 3 = 1; frame 1 0 2 1 = 1; frame 1 3 19 3 = 1; read 48 = 0; write 63 5 = 0; read 63 = 5",
                "protect 1 0 2 = 1; protect 1 3 2 = 3");
        Script.run("4 frame: the entry has the rights that are told",
                "table 0 0 1 3 = 1; frame 1 0 2 1 = 1; frame 1 1 3 2 = 1; write 0 1 ! UnsupportedOperation",
                "read 4 ! UnsupportedOperation; protect 1 0 3 = 1; protect 1 1 3 = 2");
    }

    private static void frameRefused() {
        Script.run("4 frame: table is no TABLE: a FREE page", "frame 9 0 1 3 ! UnsupportedOperation");
        Script.run("4 frame: table is no TABLE: a ROOT", "frame 0 0 1 3 ! UnsupportedOperation");
        Script.run("4 frame: table is no TABLE: a FRAME", FRAME, "frame 2 0 3 3 ! UnsupportedOperation");
        Script.run("4 frame: table is no TABLE that is MINE", CHILD,
                "start 2 = 1; frame 6 1 9 3 ! UnsupportedOperation");
        Script.run("4 frame: page is not free: a ROOT", FRAME, "frame 1 1 0 3 ! IllegalState");
        Script.run("4 frame: page is not free: a TABLE", FRAME, "frame 1 1 1 3 ! IllegalState");
        Script.run("4 frame: page is not free: a FRAME", FRAME, "frame 1 1 2 3 ! IllegalState");
        Script.run("4 frame: the entry is not empty", FRAME,
                "write 0 5 = 0; frame 1 0 3 3 ! IllegalState; frame 1 0 2 3 ! IllegalState; read 0 = 5");
        Script.run("4 frame: the entry is empty again", FRAME, "release 1 0 = 2; frame 1 0 3 3 = 1; page 3 0 = 3");
    }

    private static void protect() {
        Script.run("5 protect: answers the rights before, in a table",
                FRAME, "protect 1 0 1 = 3; protect 1 0 2 = 1; protect 1 0 3 = 2; protect 1 0 3 = 3; page 1 2 = 1");
        Script.run("5 protect: answers the rights before, in a root",
                FRAME, "protect 0 0 1 = 3; protect 0 0 2 = 1; protect 0 0 3 = 2; protect 0 0 3 = 3; page 0 2 = 1");
        Script.run("5 protect: gives other rights to that entry alone",
                FRAME, "frame 1 1 3 3 = 1; protect 1 0 1 = 3; write 0 1 ! UnsupportedOperation; write 4 1 = 0",
                "protect 1 1 2 = 3; read 4 ! UnsupportedOperation; read 0 = 0");
        Script.run("5 protect: the page in the entry stays",
                FRAME, "write 0 7 = 0; protect 1 0 1 = 3; protect 0 0 1 = 3; read 0 = 7; release 1 0 = 2");
    }

    private static void protectRefused() {
        Script.run("5 protect: page is no ROOT or TABLE: a FREE page", "protect 9 0 3 ! UnsupportedOperation");
        Script.run("5 protect: page is no ROOT or TABLE: a FRAME", FRAME, "protect 2 0 3 ! UnsupportedOperation");
        Script.run("5 protect: page is no ROOT that is MINE", CHILD,
                "start 2 = 1; protect 5 0 1 ! UnsupportedOperation");
        Script.run("5 protect: page is no TABLE that is MINE", CHILD,
                "start 2 = 1; protect 6 0 1 ! UnsupportedOperation");
        Script.run("5 protect: the entry is empty, in a root", "protect 0 0 3 ! NoSuchElement", FRAME,
                "protect 0 1 3 ! NoSuchElement; protect 0 3 3 ! NoSuchElement");
        Script.run("5 protect: the entry is empty, in a table", FRAME,
                "protect 1 1 3 ! NoSuchElement; release 1 0 = 2; protect 1 0 3 ! NoSuchElement");
    }

    private static void copy() {
        String two = FRAME + "; frame 1 1 3 3 = 1; write 0 1 = 0; write 1 -2 = 0; write 2 2147483647 = 0;"
                + "write 3 -2147483648 = 0; write 4 9 = 0";
        Script.run("6 copy: the words of one frame, from the first to the last, to another", two,
                "copy 2 3 = 1; read 4 = 1; read 5 = -2; read 6 = 2147483647; read 7 = -2147483648");
        Script.run("6 copy: the first frame keeps its words", two,
                "copy 2 3 = 1; read 0 = 1; read 1 = -2; read 2 = 2147483647; read 3 = -2147483648");
        Script.run("6 copy: the two frames stay apart", two, "copy 2 3 = 1; write 0 5 = 1; read 4 = 1; write 5 6 = -2",
                "read 1 = -2");
        Script.run("6 copy: the frames beside them keep their words", two,
                "frame 1 2 4 3 = 1; write 8 7 = 0; write 11 8 = 0; copy 4 2 = 1; read 0 = 7; read 3 = 8; read 4 = 9");
        Script.run("6 copy: a frame to itself", two, "copy 2 2 = 1; read 0 = 1; read 3 = -2147483648; read 4 = 9");
        Script.run("6 copy: rights are not asked for", two,
                "protect 1 0 2 = 3; protect 1 1 1 = 3; copy 2 3 = 1; read 4 = 1; read 5 = -2");
        Script.run("6 copy: to an EMBRYO and from a ZOMBIE", CHILD, two,
                "copy 2 7 = 1; start 2 = 1; give 2 = 1; read 0 = 1; write 0 4 = 1; kill 2 = 0; copy 7 3 = 1",
                "read 4 = 4; read 5 = -2");
    }

    private static void copyRefused() {
        Script.run("6 copy: one of them is no FRAME: a FREE page", FRAME,
                "copy 9 2 ! UnsupportedOperation; copy 2 9 ! UnsupportedOperation; copy 9 9 ! UnsupportedOperation");
        Script.run("6 copy: one of them is no FRAME: a ROOT", FRAME,
                "copy 0 2 ! UnsupportedOperation; copy 2 0 ! UnsupportedOperation; copy 0 0 ! UnsupportedOperation");
        Script.run("6 copy: one of them is no FRAME: a TABLE", FRAME,
                "copy 1 2 ! UnsupportedOperation; copy 2 1 ! UnsupportedOperation; copy 1 1 ! UnsupportedOperation");
        Script.run("6 copy: one of them is no FRAME that is MINE", FRAME, CHILD,
                "start 2 = 1; copy 7 2 ! UnsupportedOperation; copy 2 7 ! UnsupportedOperation",
                "copy 7 7 ! UnsupportedOperation");
    }

    private static void release() {
        Script.run("7 release: the frame in an entry becomes FREE, the entry empty; answers the page", FRAME,
                "release 1 0 = 2; page 2 0 = 0; page 2 1 = 0; page 1 2 = 0; count 1 = 18; process 1 3 = 2",
                "read 0 ! NoSuchElement");
        Script.run("7 release: the table in an entry becomes FREE, the entry empty; answers the page",
                "table 0 3 19 3 = 1; release 0 3 = 19; page 19 0 = 0; page 19 1 = 0; page 0 2 = 0; count 1 = 19");
        Script.run("7 release: other entries stay", FRAME, "frame 1 1 3 3 = 1; frame 1 3 4 3 = 1; write 12 6 = 0",
                "release 1 1 = 3; page 1 2 = 2; read 0 = 0; read 12 = 6; read 4 ! NoSuchElement");
        Script.run("7 release: a frame with words goes too", FRAME,
                "write 0 1 = 0; write 1 1 = 0; write 2 1 = 0; write 3 1 = 0; release 1 0 = 2");
        Script.run("7 release: rights are not asked for", FRAME,
                "protect 0 0 1 = 3; protect 1 0 1 = 3; release 1 0 = 2");
    }

    private static void releaseRefused() {
        Script.run("7 release: page is no ROOT or TABLE: a FREE page", "release 9 0 ! UnsupportedOperation");
        Script.run("7 release: page is no ROOT or TABLE: a FRAME", FRAME, "release 2 0 ! UnsupportedOperation");
        Script.run("7 release: page is no ROOT that is MINE",
                "spawn 2 5 = 1; table 5 0 6 3 = 1; start 2 = 1; release 5 0 ! UnsupportedOperation");
        Script.run("7 release: page is no TABLE that is MINE", CHILD,
                "start 2 = 1; release 6 0 ! UnsupportedOperation");
        Script.run("7 release: the entry is empty, in a root",
                "release 0 0 ! NoSuchElement; release 0 3 ! NoSuchElement; table 0 0 1 3 = 1; release 0 0 = 1",
                "release 0 0 ! NoSuchElement");
        Script.run("7 release: the entry is empty, in a table", FRAME,
                "release 1 1 ! NoSuchElement; release 1 0 = 2; release 1 0 ! NoSuchElement");
        for (int entry = 0; entry < 4; entry++) {
            Script.run("7 release: what is in it is a table whose entry " + entry + " is not empty",
                    "table 0 1 1 3 = 1; frame 1 " + entry + " 2 3 = 1; release 0 1 ! IllegalState",
                    "release 1 " + entry + " = 2; release 0 1 = 1");
        }
        Script.run("7 release: what is in it is a table with all entries not empty", FRAME,
                "frame 1 1 3 3 = 1; frame 1 2 4 3 = 1; frame 1 3 5 3 = 1; release 0 0 ! IllegalState",
                "release 1 0 = 2; release 1 1 = 3; release 1 2 = 4; release 0 0 ! IllegalState; release 1 3 = 5",
                "release 0 0 = 1");
    }

    private static void page() {
        Script.run("22 page: kind (0)", FRAME, "page 0 0 = 1; page 1 0 = 2; page 2 0 = 3; page 3 0 = 0; page 19 0 = 0");
        Script.run("22 page: owner, 0 if free (1)", CHILD,
                "page 0 1 = 1; page 5 1 = 2; page 6 1 = 2; page 7 1 = 2; page 8 1 = 0; kill 2 = 0; page 7 1 = 2",
                "release 6 0 = 7; page 7 1 = 0; release 5 0 = 6; reap 2 = 0; page 5 1 = 0");
        Script.run("22 page: entries that are not empty, none to all (2)",
                "page 0 2 = 0; table 0 3 1 3 = 1; page 0 2 = 1; table 0 0 2 3 = 1; page 0 2 = 2; table 0 2 3 3 = 1",
                "page 0 2 = 3; table 0 1 4 3 = 1; page 0 2 = 4; page 1 2 = 0; frame 1 3 5 3 = 1; page 1 2 = 1",
                "frame 1 0 6 3 = 1; frame 1 1 7 3 = 1; frame 1 2 8 3 = 1; page 1 2 = 4; release 1 1 = 7; page 1 2 = 3");
        Script.run("22 page: entries that are not empty, 0 for a frame", FRAME,
                "write 0 1 = 0; write 1 1 = 0; write 2 1 = 0; write 3 1 = 0; page 2 2 = 0");
        Script.run("22 page: entries that are not empty, 0 for a free page", FRAME,
                "page 9 2 = 0; write 0 1 = 0; release 1 0 = 2; page 2 2 = 0; release 0 0 = 1; page 1 2 = 0");
        Script.run("22 page: what it can tell is 0 .. 2",
                "page 0 -1 ! IllegalArgument; page 0 0 = 1; page 0 2 = 0; page 0 3 ! IllegalArgument",
                "page 9 3 ! IllegalArgument; page 19 -1 ! IllegalArgument");
    }
}
