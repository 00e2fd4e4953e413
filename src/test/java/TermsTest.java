/** Promise 1 and the terms: what there is, from the first number to the last, and how much fits in. */
public final class TermsTest {
    private static final String FRAME = "table 0 0 1 3 = 1; frame 1 0 2 3 = 1";
    private static final String FOUR_CHILDREN = "spawn 2 5 = 1; spawn 3 6 = 1; spawn 4 7 = 1; spawn 5 8 = 1";

    private TermsTest() {
    }

    public static void main(String[] args) {
        newObject();
        twoObjects();
        lastCall();
        processes();
        oneIsRunning();
        descriptors();
        pages();
        entries();
        rights();
        words();
        pagesUsedAgain();
        addresses();
        everyAddress();
        pipes();
        counts();
        Script.finish();
    }

    private static void newObject() {
        Script.run("1 a new object: at first 1 is RUNNING, the others FREE",
                "count 0 = 1; count 2 = 1; process 1 0 = 3; process 2 0 = 0; process 3 0 = 0",
                "process 4 0 = 0; process 5 0 = 0");
        Script.run("1 a new object: page 0 is process 1's root, all others are free",
                "process 1 2 = 0; process 1 3 = 1; page 0 0 = 1; page 0 1 = 1; count 1 = 19; page 1 0 = 0",
                "page 1 1 = 0; page 10 0 = 0; page 19 0 = 0; page 19 1 = 0");
        Script.run("1 a new object: the entries of page 0 are empty",
                "page 0 2 = 0; release 0 0 ! NoSuchElement; release 0 1 ! NoSuchElement",
                "release 0 2 ! NoSuchElement; release 0 3 ! NoSuchElement");
        Script.run("1 a new object: no descriptors, no ints",
                "process 1 4 = 0; count 3 = 0; close 1 0 ! NoSuchElement; close 1 1 ! NoSuchElement",
                "close 1 2 ! NoSuchElement; close 1 3 ! NoSuchElement");
    }

    private static void twoObjects() {
        FiniteKernel first = new FiniteKernel();
        first.table(0, 0, 1, 3);
        first.frame(1, 0, 2, 3);
        first.write(0, 7);
        first.open(1, 0, 0);
        first.put(0, 0);
        first.spawn(2, 5);
        first.start(2);
        first.give(2);
        Script.run("1 a new object beside one that was used",
                "count 0 = 1; count 1 = 19; count 2 = 1; count 3 = 0; read 0 ! NoSuchElement",
                "open 1 0 0 = 1; table 0 0 1 3 = 1; frame 1 0 2 3 = 1; read 0 = 0; take 0 0 ! IllegalState");
        if (first.count(0) != 2 || first.count(1) != 16 || first.count(3) != 1) {
            Script.wrong("a new object changed an older one");
        }
    }

    private static void lastCall() {
        StringBuilder rows = new StringBuilder(FRAME + "; open 1 0 0 = 1; write 1 -1 = 0");
        // 4 calls stand before these 127 * 4 = 508; the pipe is emptied and filled from the start to the end.
        for (int value = 1; value <= 127; value++) {
            rows.append("; write 0 ").append(value).append(" = ").append(value - 1);
            rows.append("; put 0 0 = 1; take 0 1 = ").append(value);
            rows.append("; read 1 = ").append(value);
        }
        Script.run("an object is used for 512 calls", rows.toString());
    }

    private static void processes() {
        Script.run("PROCESSES 1 .. 5: 0 is too small, 1 is there",
                "process 0 0 ! IllegalArgument; spawn 0 1 ! IllegalArgument; process 1 0 = 3");
        Script.run("PROCESSES 1 .. 5: 6 is too large, 5 is there",
                "process 6 0 ! IllegalArgument; spawn 6 1 ! IllegalArgument; process 5 0 = 0; spawn 5 1 = 1",
                "process 5 0 = 1; start 5 = 1; give 5 = 1; count 0 = 5");
        Script.run("PROCESSES 1 .. 5: when all are taken, none is free",
                FOUR_CHILDREN, "count 2 = 5; spawn 1 9 ! IllegalState; spawn 2 9 ! IllegalState",
                "spawn 3 9 ! IllegalState; spawn 4 9 ! IllegalState; spawn 5 9 ! IllegalState");
        Script.run("a PARENT: process 1 has none: 0",
                "process 1 1 = 0; spawn 2 5 = 1; start 2 = 1; give 2 = 1; process 1 1 = 0; give 1 = 2",
                "kill 2 = 0; reap 2 = 0; process 1 1 = 0");
    }

    private static void oneIsRunning() {
        String three = "spawn 2 5 = 1; start 2 = 1; spawn 3 6 = 1; start 3 = 1; table 0 0 1 3 = 1";
        Script.run("just one is RUNNING after give", three,
                "give 3 = 1; count 0 = 3; process 1 0 = 2; process 2 0 = 2; process 3 0 = 3");
        Script.run("just one is RUNNING after expect", three,
                "expect 3 0 = 3; count 0 = 3; process 1 0 = 4; process 2 0 = 2; process 3 0 = 3");
        Script.run("just one is RUNNING after a kill of the caller", three,
                "give 3 = 1; kill 3 = 0; count 0 = 1; process 1 0 = 3; process 2 0 = 2; process 3 0 = 5");
        Script.run("just one is RUNNING after a kill of a child, start, send and reap", three,
                "kill 3 = 0; reap 3 = 0; frame 1 0 2 3 = 1; give 2 = 1; table 5 0 7 3 = 1; expect 1 0 = 1",
                "send 2 0 = 2; count 0 = 1; process 1 0 = 3; process 2 0 = 2; process 3 0 = 0");
    }

    private static void descriptors() {
        Script.run("DESCRIPTORS 0 .. 3: -1 is too small, 0 is there",
                "open 1 -1 0 ! IllegalArgument; open 1 0 0 = 1; share -1 1 1 ! IllegalArgument",
                "share 0 1 -1 ! IllegalArgument; close 1 -1 ! IllegalArgument; put -1 0 ! IllegalArgument",
                "take -1 0 ! IllegalArgument; close 1 0 = 0");
        Script.run("DESCRIPTORS 0 .. 3: 4 is too large, 3 is there",
                "open 1 4 0 ! IllegalArgument; open 1 3 0 = 1; share 4 1 1 ! IllegalArgument",
                "share 3 1 4 ! IllegalArgument; close 1 4 ! IllegalArgument; put 4 0 ! IllegalArgument",
                "take 4 0 ! IllegalArgument; close 1 3 = 0");
        Script.run("DESCRIPTORS 0 .. 3: when all are in use, none is left",
                "open 1 0 0 = 1; open 1 1 1 = 1; share 1 1 2 = 2; share 1 1 3 = 3; process 1 4 = 4",
                "open 1 0 2 ! IllegalState; open 1 1 2 ! IllegalState; open 1 2 2 ! IllegalState",
                "open 1 3 2 ! IllegalState; close 1 3 = 2; open 1 3 2 = 1");
    }

    private static void pages() {
        Script.run("PAGES 0 .. 19: -1 is too small, 0 is there",
                "page -1 0 ! IllegalArgument; page 0 0 = 1; table -1 0 1 3 ! IllegalArgument",
                "table 0 0 -1 3 ! IllegalArgument; spawn 2 -1 ! IllegalArgument");
        Script.run("PAGES 0 .. 19: 20 is too large, 19 is there",
                "page 20 0 ! IllegalArgument; page 19 0 = 0; table 20 0 1 3 ! IllegalArgument",
                "table 0 0 20 3 ! IllegalArgument; spawn 2 20 ! IllegalArgument; table 0 0 19 3 = 1; page 19 0 = 2");
        StringBuilder rows = new StringBuilder(fullMemory() + "; count 1 = 0; process 1 3 = 20");
        for (int page = 0; page < Kernels.PAGES; page++) {
            rows.append("; frame 4 3 ").append(page).append(" 3 ! IllegalState");
            rows.append("; spawn 2 ").append(page).append(" ! IllegalState");
        }
        rows.append("; release 4 2 = 19; count 1 = 1; frame 4 3 19 3 = 1; count 1 = 0");
        Script.run("PAGES 0 .. 19: when all are taken, none is free", rows.toString());
    }

    /** A root, four tables and fifteen frames: the frames' addresses are 0 .. 59. */
    private static String fullMemory() {
        StringBuilder rows = new StringBuilder();
        for (int entry = 0; entry < 4; entry++) {
            rows.append("table 0 ").append(entry).append(' ').append(1 + entry).append(" 3 = 1; ");
        }
        for (int frame = 0; frame < 15; frame++) {
            rows.append("frame ").append(1 + frame / 4).append(' ').append(frame % 4).append(' ').append(5 + frame);
            rows.append(frame < 14 ? " 3 = 1; " : " 3 = 1");
        }
        return rows.toString();
    }

    private static void entries() {
        Script.run("ENTRIES 0 .. 3: -1 is too small, 0 is there",
                "table 0 -1 1 3 ! IllegalArgument; table 0 0 1 3 = 1; frame 1 -1 2 3 ! IllegalArgument",
                "frame 1 0 2 3 = 1; protect 1 -1 3 ! IllegalArgument; protect 1 0 3 = 3",
                "release 1 -1 ! IllegalArgument; release 1 0 = 2");
        Script.run("ENTRIES 0 .. 3: 4 is too large, 3 is there",
                "table 0 4 1 3 ! IllegalArgument; table 0 3 1 3 = 1; frame 1 4 2 3 ! IllegalArgument",
                "frame 1 3 2 3 = 1; protect 1 4 3 ! IllegalArgument; protect 1 3 3 = 3",
                "release 1 4 ! IllegalArgument; release 1 3 = 2");
        Script.run("ENTRIES 0 .. 3 of a root: when all are filled, none is empty",
                "table 0 0 1 3 = 1; table 0 1 2 3 = 1; table 0 2 3 3 = 1; table 0 3 4 3 = 1; page 0 2 = 4",
                "table 0 0 5 3 ! IllegalState; table 0 1 5 3 ! IllegalState; table 0 2 5 3 ! IllegalState",
                "table 0 3 5 3 ! IllegalState");
        Script.run("ENTRIES 0 .. 3 of a table: when all are filled, none is empty",
                "table 0 0 1 3 = 1; frame 1 0 2 3 = 1; frame 1 1 3 3 = 1; frame 1 2 4 3 = 1; frame 1 3 5 3 = 1",
                "page 1 2 = 4; frame 1 0 6 3 ! IllegalState; frame 1 1 6 3 ! IllegalState",
                "frame 1 2 6 3 ! IllegalState; frame 1 3 6 3 ! IllegalState");
    }

    private static void rights() {
        Script.run("RIGHTS 1 .. 3: 0 is too small, 1 is there",
                "table 0 0 1 0 ! IllegalArgument; table 0 0 1 1 = 1; frame 1 0 2 0 ! IllegalArgument",
                "frame 1 0 2 1 = 1; protect 1 0 0 ! IllegalArgument; protect 1 0 1 = 1; protect 0 0 1 = 1");
        Script.run("RIGHTS 1 .. 3: 4 is too large, 3 is there",
                "table 0 0 1 4 ! IllegalArgument; table 0 0 1 3 = 1; frame 1 0 2 4 ! IllegalArgument",
                "frame 1 0 2 3 = 1; protect 1 0 4 ! IllegalArgument; protect 1 0 3 = 3; protect 0 0 3 = 3");
        for (int ofRoot = 1; ofRoot <= 3; ofRoot++) {
            for (int ofTable = 1; ofTable <= 3; ofTable++) {
                rightsInBoth(ofRoot, ofTable);
            }
        }
    }

    private static void rightsInBoth(int ofRoot, int ofTable) {
        boolean toRead = ofRoot != 2 && ofTable != 2;
        boolean toWrite = ofRoot != 1 && ofTable != 1;
        Script.run("READING or writing needs the right in both: " + ofRoot + " in the root, " + ofTable
                        + " in the table",
                FRAME, "open 1 0 0 = 1; write 0 7 = 0; put 0 0 = 1",
                "protect 0 0 " + ofRoot + " = 3; protect 1 0 " + ofTable + " = 3",
                "read 0 " + (toRead ? "= 7" : "! UnsupportedOperation"),
                "put 0 0 " + (toRead ? "= 2" : "! UnsupportedOperation"),
                "write 0 8 " + (toWrite ? "= 7" : "! UnsupportedOperation"),
                "take 0 0 " + (toWrite ? "= 7" : "! UnsupportedOperation"));
    }

    private static void words() {
        Script.run("WORDS 0 .. 3 are ints, the least and the greatest too", FRAME,
                "write 0 -2147483648 = 0; write 1 2147483647 = 0; write 2 -1 = 0; write 3 0 = 0",
                "read 0 = -2147483648; read 1 = 2147483647; read 2 = -1; read 3 = 0",
                "write 0 2147483647 = -2147483648; read 0 = 2147483647; read 1 = 2147483647");
        Script.run("WORDS 0 .. 3 of a frame are not those of the frames beside it", FRAME,
                "frame 1 1 3 3 = 1; frame 1 2 4 3 = 1; write 4 1 = 0; write 7 2 = 0; read 3 = 0; read 8 = 0",
                "write 3 5 = 0; write 8 6 = 0; read 4 = 1; read 7 = 2");
    }

    private static void pagesUsedAgain() {
        String wordsOfTwo = FRAME + "; write 0 1 = 0; write 1 2 = 0; write 2 3 = 0; write 3 4 = 0";
        String noWords = "read 0 = 0; read 1 = 0; read 2 = 0; read 3 = 0";
        Script.run("a page that is given a kind has words 0: a frame again", wordsOfTwo,
                "release 1 0 = 2; frame 1 0 2 3 = 1", noWords);
        Script.run("a page that is given a kind has words 0: a frame that was a table", FRAME,
                "table 0 1 3 3 = 1; frame 3 0 4 1 = 1; frame 3 3 5 2 = 1; release 3 0 = 4; release 3 3 = 5",
                "release 0 1 = 3; release 1 0 = 2; frame 1 0 3 3 = 1; page 3 2 = 0", noWords);
        Script.run("a page that is given a kind has words 0: a frame that was a root",
                "table 0 0 1 3 = 1; spawn 2 2 = 1; table 2 1 3 3 = 1; release 2 1 = 3; kill 2 = 0; reap 2 = 0",
                "frame 1 0 2 3 = 1; page 2 2 = 0", noWords);
        Script.run("a page that is given a kind has empty entries: a table that was a frame", wordsOfTwo,
                "release 1 0 = 2; table 0 1 2 3 = 1; page 2 2 = 0; read 16 ! NoSuchElement",
                "read 20 ! NoSuchElement; read 24 ! NoSuchElement; read 28 ! NoSuchElement");
        Script.run("a page that is given a kind has empty entries: a root that was a frame", wordsOfTwo,
                "release 1 0 = 2; spawn 2 2 = 1; page 2 2 = 0; release 2 0 ! NoSuchElement",
                "release 2 1 ! NoSuchElement; release 2 2 ! NoSuchElement; release 2 3 ! NoSuchElement");
        Script.run("a page that is given a kind has empty entries: a root that was a table", FRAME,
                "release 1 0 = 2; release 0 0 = 1; spawn 2 1 = 1; page 1 2 = 0; release 1 0 ! NoSuchElement");
        Script.run("a page that is given a kind is in no entry of before", FRAME,
                "release 1 0 = 2; table 0 1 3 3 = 1; frame 3 2 2 3 = 1; read 0 ! NoSuchElement; read 24 = 0");
    }

    private static void addresses() {
        Script.run("ADDRESS 0 .. 63: -1 is too small, 0 is there", FRAME,
                "open 1 0 0 = 1; read -1 ! IllegalArgument; read 0 = 0; write -1 5 ! IllegalArgument",
                "write 0 5 = 0; put 0 -1 ! IllegalArgument; put 0 0 = 1; take 0 -1 ! IllegalArgument; take 0 0 = 5");
        Script.run("ADDRESS 0 .. 63: 64 is too large, 63 is there",
                "table 0 3 1 3 = 1; frame 1 3 2 3 = 1; open 1 0 0 = 1; read 64 ! IllegalArgument; read 63 = 0",
                "write 64 5 ! IllegalArgument; write 63 5 = 0; put 0 64 ! IllegalArgument; put 0 63 = 1",
                "take 0 64 ! IllegalArgument; take 0 63 = 5");
        Script.run("ADDRESS: entry (address / 16) of the root, from the first to the last of a table",
                "table 0 1 1 3 = 1; frame 1 0 2 3 = 1; frame 1 3 3 3 = 1; write 16 1 = 0; write 31 2 = 0",
                "read 15 ! NoSuchElement; read 32 ! NoSuchElement; read 16 = 1; read 31 = 2");
        Script.run("ADDRESS: entry (address / 4) mod 4 of the table, from the first to the last of a frame",
                "table 0 1 1 3 = 1; frame 1 2 2 3 = 1; write 24 1 = 0; write 27 2 = 0; read 23 ! NoSuchElement",
                "read 28 ! NoSuchElement; read 24 = 1; read 27 = 2; read 25 = 0; read 26 = 0");
    }

    private static void everyAddress() {
        StringBuilder rows = new StringBuilder(fullMemory());
        for (int address = 0; address < 60; address++) {
            rows.append("; write ").append(address).append(' ').append(100 + address).append(" = 0");
        }
        for (int address = 0; address < 60; address++) {
            rows.append("; read ").append(address).append(" = ").append(100 + address);
        }
        for (int address = 60; address < Kernels.ADDRESSES; address++) {
            rows.append("; read ").append(address).append(" ! NoSuchElement");
        }
        rows.append("; release 1 0 = 5; frame 4 3 5 3 = 1; write 60 1 = 0; write 63 4 = 0");
        rows.append("; read 0 ! NoSuchElement; read 60 = 1; read 63 = 4; read 59 = 159");
        Script.run("ADDRESS 0 .. 63: every one is a word of its own", rows.toString());
    }

    private static void pipes() {
        Script.run("PIPES 0 .. 2: -1 is too small, 0 is there",
                "open 1 0 -1 ! IllegalArgument; open 1 0 0 = 1");
        Script.run("PIPES 0 .. 2: 3 is too large, 2 is there",
                "open 1 0 3 ! IllegalArgument; open 1 0 2 = 1");
        for (int pipe = 0; pipe < 3; pipe++) {
            Script.run("PIPES hold up to 4 ints in order: pipe " + pipe, FRAME,
                    "write 0 1 = 0; write 1 2 = 0; write 2 3 = 0; write 3 4 = 0; open 1 0 " + pipe + " = 1",
                    "take 0 0 ! IllegalState; put 0 0 = 1; put 0 1 = 2; put 0 2 = 3; put 0 3 = 4",
                    "put 0 0 ! IllegalState; take 0 0 = 1; put 0 3 = 4; put 0 3 ! IllegalState; take 0 0 = 2",
                    "take 0 0 = 3; take 0 0 = 4; take 0 0 = 4; take 0 0 ! IllegalState; put 0 1 = 1");
        }
        Script.run("PIPES hold up to 4 ints each", FRAME,
                "open 1 0 0 = 1; open 1 1 1 = 1; open 1 2 2 = 1; put 0 0 = 1; put 0 0 = 2; put 0 0 = 3; put 0 0 = 4",
                "put 1 0 = 1; put 1 0 = 2; put 1 0 = 3; put 1 0 = 4; put 2 0 = 1; put 2 0 = 2; put 2 0 = 3",
                "put 2 0 = 4; put 0 0 ! IllegalState; put 1 0 ! IllegalState; put 2 0 ! IllegalState; count 3 = 12");
    }

    private static void counts() {
        StringBuilder rows = new StringBuilder(FOUR_CHILDREN + "; open 1 0 1 = 1");
        int count = 1;
        for (int process = 1; process <= Kernels.PROCESSES; process++) {
            for (int descriptor = process == 1 ? 1 : 0; descriptor < 4; descriptor++) {
                count++;
                rows.append("; share 0 ").append(process).append(' ').append(descriptor).append(" = ").append(count);
            }
        }
        for (int process = Kernels.PROCESSES; process >= 1; process--) {
            for (int descriptor = 3; descriptor >= 0; descriptor--) {
                count--;
                rows.append("; close ").append(process).append(' ').append(descriptor).append(" = ").append(count);
            }
        }
        Script.run("COUNT: descriptors of all processes, from 0 to 20 and back", rows.toString());
        Script.run("COUNT: descriptors of other pipes are not among them",
                "open 1 0 0 = 1; open 1 1 1 = 1; open 1 2 2 = 1; share 1 1 3 = 2; close 1 0 = 0; close 1 1 = 1");
    }
}
