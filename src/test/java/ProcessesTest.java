/** Promises 2, 8 to 11, 21 and 23: the lives of processes. */
public final class ProcessesTest {
    private static final String FRAME = "table 0 0 1 3 = 1; frame 1 0 2 3 = 1";
    private static final String READY_CHILD = "spawn 2 5 = 1; start 2 = 1";
    // 1 is RUNNING and the parent of all others, 2 an EMBRYO, 3 READY, 4 WAITING, 5 a ZOMBIE.
    private static final String ALL_STATES =
            "spawn 4 8 = 1; table 8 0 9 3 = 1; start 4 = 1; give 4 = 1; expect 1 0 = 1; spawn 2 6 = 1;"
            + "spawn 3 7 = 1; start 3 = 1; spawn 5 10 = 1; kill 5 = 0";

    private ProcessesTest() {
    }

    public static void main(String[] args) {
        spawn();
        spawnRefused();
        start();
        give();
        kill();
        killRefused();
        killOfTheCaller();
        reap();
        reapRefused();
        reapOfParents();
        process();
        count();
        countOfInts();
        Script.finish();
    }

    private static void spawn() {
        Script.run("2 spawn: a FREE process becomes an EMBRYO, with the caller as parent",
                "spawn 2 5 = 1; process 2 0 = 1; process 2 1 = 1; count 2 = 2; count 0 = 1; process 1 0 = 3");
        Script.run("2 spawn: the caller is the parent, whoever that is", READY_CHILD,
                "give 2 = 1; spawn 3 6 = 1; process 3 1 = 2; process 3 0 = 1");
        Script.run("2 spawn: a FREE page as root, which it owns",
                "spawn 5 19 = 1; process 5 2 = 19; process 5 3 = 1; page 19 0 = 1; page 19 1 = 5; page 19 2 = 0",
                "count 1 = 18");
        Script.run("2 spawn: no descriptors", "open 1 0 0 = 1; spawn 2 5 = 1; process 2 4 = 0",
                "close 2 0 ! NoSuchElement; close 2 3 ! NoSuchElement");
        Script.run("2 spawn: a process that was reaped, anew",
                "spawn 2 5 = 1; open 2 3 0 = 1; table 5 0 6 3 = 1; kill 2 = 1; close 2 3 = 0; release 5 0 = 6",
                "reap 2 = 0; spawn 2 6 = 1; process 2 0 = 1; process 2 1 = 1; process 2 2 = 6; process 2 3 = 1",
                "process 2 4 = 0; page 6 2 = 0; page 5 0 = 0; start 2 = 1");
    }

    private static void spawnRefused() {
        Script.run("2 spawn: the process is not free, in any other state", ALL_STATES,
                "spawn 1 15 ! IllegalState; spawn 2 15 ! IllegalState; spawn 3 15 ! IllegalState",
                "spawn 4 15 ! IllegalState; spawn 5 15 ! IllegalState");
        Script.run("2 spawn: the page is not free, of any other kind", FRAME,
                "spawn 2 0 ! IllegalState; spawn 2 1 ! IllegalState; spawn 2 2 ! IllegalState; spawn 2 3 = 1");
        Script.run("2 spawn: neither is free", FRAME, "spawn 1 2 ! IllegalState; spawn 1 0 ! IllegalState");
    }

    private static void start() {
        Script.run("8 start: an EMBRYO of which the caller is the parent becomes READY",
                "spawn 2 5 = 1; start 2 = 1; process 2 0 = 2; count 0 = 1; process 1 0 = 3");
        Script.run("8 start: it is FREE", "start 2 ! IllegalState");
        Script.run("8 start: it is in any other state", ALL_STATES,
                "start 1 ! IllegalState; start 3 ! IllegalState; start 4 ! IllegalState; start 5 ! IllegalState");
        Script.run("8 start: an EMBRYO of the caller's parent", READY_CHILD, "spawn 3 6 = 1; give 2 = 1",
                "start 3 ! IllegalState");
        Script.run("8 start: an EMBRYO of the caller's child", READY_CHILD, "give 2 = 1; spawn 3 6 = 1; give 1 = 2",
                "start 3 ! IllegalState; kill 2 = 0; start 3 ! IllegalState; reap 2 = 1; start 3 = 1");
        Script.run("8 start: a second time", READY_CHILD, "start 2 ! IllegalState");
    }

    private static void give() {
        Script.run("9 give: a READY process becomes RUNNING, the caller READY: answers the one that called",
                READY_CHILD, "give 2 = 1; process 1 0 = 2; process 2 0 = 3; count 0 = 2; give 1 = 2",
                "process 1 0 = 3; process 2 0 = 2; count 0 = 1");
        Script.run("9 give: to one that is no parent or child", READY_CHILD,
                "spawn 3 6 = 1; start 3 = 1; give 2 = 1; give 3 = 2; count 0 = 3; give 2 = 3");
        Script.run("9 give: to one that is FREE", "give 2 ! IllegalState");
        Script.run("9 give: to one in any other state", ALL_STATES,
                "give 1 ! IllegalState; give 2 ! IllegalState; give 4 ! IllegalState; give 5 ! IllegalState",
                "give 3 = 1; give 3 ! IllegalState");
    }

    private static void kill() {
        Script.run("10 kill: a child becomes a ZOMBIE, and keeps what it has",
                "spawn 2 5 = 1; table 5 0 6 3 = 1; open 2 1 0 = 1; start 2 = 1; kill 2 = 1; process 2 0 = 5",
                "process 2 1 = 1; process 2 2 = 5; process 2 3 = 2; process 2 4 = 1; count 0 = 1; count 2 = 2",
                "open 1 0 0 ! IllegalState");
        for (int descriptors = 0; descriptors <= 4; descriptors++) {
            StringBuilder rows = new StringBuilder("open 1 0 0 = 1; spawn 2 5 = 1");
            for (int descriptor = 0; descriptor < descriptors; descriptor++) {
                rows.append("; share 0 2 ").append(3 - descriptor).append(" = ").append(2 + descriptor);
            }
            Script.run("10 kill: answers how many descriptors it has: " + descriptors,
                    rows + "; kill 2 = " + descriptors);
        }
        Script.run("10 kill: a child that is an EMBRYO, READY or WAITING", ALL_STATES,
                "kill 2 = 0; kill 3 = 0; kill 4 = 0; process 2 0 = 5; process 3 0 = 5; process 4 0 = 5; count 0 = 1");
        Script.run("10 kill: a child that waited is sent nothing", ALL_STATES, FRAME,
                "kill 4 = 0; send 4 0 ! IllegalState; give 4 ! IllegalState");
    }

    private static void killRefused() {
        Script.run("10 kill: it is process 1, the caller", READY_CHILD, "kill 1 ! UnsupportedOperation");
        Script.run("10 kill: it is process 1, not the caller", READY_CHILD,
                "give 2 = 1; kill 1 ! UnsupportedOperation");
        Script.run("10 kill: it is FREE", "kill 2 ! IllegalState; kill 5 ! IllegalState");
        Script.run("10 kill: it is already a ZOMBIE", "spawn 2 5 = 1; kill 2 = 0; kill 2 ! IllegalState");
        Script.run("10 kill: it is neither: a child of the caller's parent", READY_CHILD,
                "spawn 3 6 = 1; start 3 = 1; spawn 4 7 = 1; give 2 = 1; kill 3 ! IllegalState; kill 4 ! IllegalState");
        Script.run("10 kill: it is neither: a child of the caller's child", READY_CHILD,
                "give 2 = 1; spawn 3 6 = 1; give 1 = 2; kill 3 ! IllegalState; kill 2 = 0; kill 3 ! IllegalState",
                "reap 2 = 1; kill 3 = 0");
        Script.run("10 kill: it is neither: the caller's parent", READY_CHILD,
                "give 2 = 1; spawn 3 6 = 1; start 3 = 1; give 3 = 2; kill 2 ! IllegalState");
        Script.run("10 kill: it is the caller, and none is READY: all others are FREE or WAITING", READY_CHILD,
                "table 0 0 1 3 = 1; expect 2 0 = 2; kill 2 ! IllegalState; count 0 = 2; process 2 0 = 3");
        Script.run("10 kill: it is the caller, and none is READY: an EMBRYO and a ZOMBIE are not", READY_CHILD,
                "table 0 0 1 3 = 1; expect 2 0 = 2; spawn 3 6 = 1; spawn 4 7 = 1; kill 4 = 0; kill 2 ! IllegalState",
                "start 3 = 1; kill 2 = 0; count 0 = 3");
        Script.run("10 kill: a child needs none to be READY", "spawn 2 5 = 1; kill 2 = 0; count 0 = 1");
    }

    private static void killOfTheCaller() {
        String allReady = "spawn 2 5 = 1; spawn 3 6 = 1; spawn 4 7 = 1; spawn 5 8 = 1; start 2 = 1; start 3 = 1;"
                + "start 4 = 1; start 5 = 1";
        Script.run("10 kill of the caller: the next by rising numbers", allReady,
                "give 2 = 1; open 2 1 2 = 1; kill 2 = 1; process 2 0 = 5; count 0 = 3; process 3 0 = 3; kill 3 = 0",
                "count 0 = 4; kill 4 = 0; count 0 = 5; process 1 0 = 2");
        Script.run("10 kill of the caller: around from 5 to 1", allReady, "give 5 = 1; kill 5 = 0; count 0 = 1",
                "process 1 0 = 3; process 5 0 = 5");
        Script.run("10 kill of the caller: around from 5 to the next that is READY", allReady,
                "table 0 0 1 3 = 1; expect 5 0 = 5; kill 5 = 0; count 0 = 2; process 1 0 = 4");
        Script.run("10 kill of the caller: around to the number below it", allReady,
                "kill 5 = 0; table 0 0 1 3 = 1; expect 2 0 = 2; table 5 0 9 3 = 1; expect 4 0 = 4; kill 4 = 0",
                "count 0 = 3; kill 3 ! IllegalState");
        Script.run("10 kill of the caller: one above it comes before one below it", allReady,
                "give 4 = 1; kill 4 = 0; count 0 = 5");
        Script.run("10 kill of the caller: those that are not READY are passed over",
                "spawn 2 5 = 1; spawn 3 6 = 1; spawn 4 7 = 1; kill 4 = 0; start 2 = 1; give 2 = 1; kill 2 = 0",
                "count 0 = 1; process 3 0 = 1; process 4 0 = 5");
        Script.run("10 kill of the caller: one that is WAITING is passed over", allReady,
                "give 3 = 1; table 6 0 9 3 = 1; expect 2 0 = 2; kill 2 = 0; count 0 = 4; process 3 0 = 4");
    }

    private static void reap() {
        Script.run("11 reap: a ZOMBIE becomes FREE, and its root",
                "spawn 2 5 = 1; kill 2 = 0; count 1 = 18; reap 2 = 0; process 2 0 = 0; process 2 1 = 0",
                "process 2 2 = -1; process 2 3 = 0; process 2 4 = 0; page 5 0 = 0; page 5 1 = 0; count 1 = 19",
                "count 2 = 1");
        Script.run("11 reap: everything is given back piece by piece",
                "spawn 2 5 = 1; table 5 3 6 3 = 1; frame 6 0 7 3 = 1; open 2 3 1 = 1; start 2 = 1; kill 2 = 1",
                "reap 2 ! IllegalState; release 6 0 = 7; reap 2 ! IllegalState; release 5 3 = 6",
                "reap 2 ! IllegalState; close 2 3 = 0; reap 2 = 0; count 1 = 19");
        Script.run("11 reap: by a parent that is not process 1", READY_CHILD,
                "give 2 = 1; spawn 3 6 = 1; kill 3 = 0; reap 3 = 0; process 3 0 = 0; page 6 0 = 0");
    }

    private static void reapRefused() {
        Script.run("11 reap: it is FREE", "reap 2 ! IllegalState; spawn 2 5 = 1; kill 2 = 0; reap 2 = 0",
                "reap 2 ! IllegalState");
        Script.run("11 reap: it is in any other state", ALL_STATES,
                "reap 1 ! IllegalState; reap 2 ! IllegalState; reap 3 ! IllegalState; reap 4 ! IllegalState",
                "reap 5 = 0");
        Script.run("11 reap: a ZOMBIE of the caller's parent", READY_CHILD, "spawn 3 6 = 1; kill 3 = 0; give 2 = 1",
                "reap 3 ! IllegalState");
        Script.run("11 reap: a ZOMBIE of the caller's child", READY_CHILD,
                "give 2 = 1; spawn 3 6 = 1; kill 3 = 0; give 1 = 2; reap 3 ! IllegalState; kill 2 = 0",
                "reap 3 ! IllegalState; reap 2 = 1; reap 3 = 0");
        for (int entry = 0; entry < 4; entry++) {
            Script.run("11 reap: it owns a page but its root, in entry " + entry,
                    "spawn 2 5 = 1; table 5 " + entry + " 6 3 = 1; kill 2 = 0; reap 2 ! IllegalState",
                    "release 5 " + entry + " = 6; reap 2 = 0");
        }
        Script.run("11 reap: it owns a frame that was sent to it", FRAME,
                "spawn 2 5 = 1; table 5 0 6 3 = 1; start 2 = 1; give 2 = 1; expect 1 0 = 1; send 2 0 = 2; kill 2 = 0",
                "reap 2 ! IllegalState; release 6 0 = 2; reap 2 ! IllegalState; release 5 0 = 6; reap 2 = 0");
        for (int descriptor = 0; descriptor < 4; descriptor++) {
            Script.run("11 reap: it has a descriptor, " + descriptor,
                    "spawn 2 5 = 1; open 2 " + descriptor + " 0 = 1; kill 2 = 1; reap 2 ! IllegalState",
                    "close 2 " + descriptor + " = 0; reap 2 = 0");
        }
    }

    private static void reapOfParents() {
        Script.run("11 reap: its children have process 1 as parent, in any state; answers how many", READY_CHILD,
                "give 2 = 1; spawn 3 6 = 1; spawn 4 7 = 1; spawn 5 8 = 1; start 3 = 1; kill 4 = 0; give 1 = 2",
                "kill 2 = 0; process 3 1 = 2; process 4 1 = 2; process 5 1 = 2; reap 2 = 3; process 3 1 = 1",
                "process 4 1 = 1; process 5 1 = 1; process 3 0 = 2; process 4 0 = 5; process 5 0 = 1; process 1 1 = 0",
                "process 2 1 = 0");
        Script.run("11 reap: of two children, one of them reaped before", READY_CHILD,
                "give 2 = 1; spawn 3 6 = 1; spawn 4 7 = 1; kill 3 = 0; reap 3 = 0; give 1 = 2; kill 2 = 0; reap 2 = 1",
                "process 3 1 = 0; process 4 1 = 1");
        Script.run("11 reap: other processes keep their parents", READY_CHILD,
                "spawn 3 6 = 1; start 3 = 1; give 3 = 1; spawn 4 7 = 1; give 1 = 3; kill 2 = 0; reap 2 = 0",
                "process 3 1 = 1; process 4 1 = 3");
        Script.run("11 reap: the children go to process 1, not to the caller", READY_CHILD,
                "give 2 = 1; spawn 3 6 = 1; start 3 = 1; give 3 = 2; spawn 4 7 = 1; give 2 = 3; kill 3 = 0",
                "reap 3 = 1; process 4 1 = 1; start 4 ! IllegalState; give 1 = 2; start 4 = 1");
        Script.run("11 reap: a child that waits goes to process 1 and waits on", READY_CHILD,
                "give 2 = 1; spawn 3 6 = 1; table 6 0 7 3 = 1; start 3 = 1; give 3 = 2; expect 2 0 = 2; kill 2 = 0",
                "count 0 = 1; reap 2 = 1; process 3 0 = 4; process 3 1 = 1", FRAME, "send 3 0 = 2; process 3 0 = 2");
    }

    private static void process() {
        Script.run("21 process: state (0)", ALL_STATES,
                "process 1 0 = 3; process 2 0 = 1; process 3 0 = 2; process 4 0 = 4; process 5 0 = 5; reap 5 = 0",
                "process 5 0 = 0");
        Script.run("21 process: parent (1), 0 if it is FREE", READY_CHILD,
                "process 2 1 = 1; process 3 1 = 0; give 2 = 1; spawn 3 6 = 1; process 3 1 = 2; kill 3 = 0",
                "process 3 1 = 2; reap 3 = 0; process 3 1 = 0");
        Script.run("21 process: root (2), -1 if it is FREE",
                "process 1 2 = 0; process 2 2 = -1; spawn 2 19 = 1; process 2 2 = 19; kill 2 = 0; process 2 2 = 19",
                "reap 2 = 0; process 2 2 = -1");
        Script.run("21 process: pages that it owns, its root too (3)",
                "process 2 3 = 0; spawn 2 5 = 1; process 2 3 = 1; table 5 0 6 3 = 1; process 2 3 = 2",
                "frame 6 0 7 3 = 1; process 2 3 = 3; process 1 3 = 1; release 6 0 = 7; process 2 3 = 2");
        Script.run("21 process: descriptors in use (4)",
                "process 1 4 = 0; open 1 3 0 = 1; process 1 4 = 1; share 3 1 0 = 2; process 1 4 = 2",
                "share 3 1 1 = 3; open 1 2 1 = 1; process 1 4 = 4; close 1 3 = 2; process 1 4 = 3; process 2 4 = 0");
        Script.run("21 process: what it can tell is 0 .. 4",
                "process 1 -1 ! IllegalArgument; process 1 0 = 3; process 1 4 = 0; process 1 5 ! IllegalArgument",
                "process 5 5 ! IllegalArgument; process 5 -1 ! IllegalArgument");
    }

    private static void count() {
        Script.run("23 count: the caller (0)", READY_CHILD, "count 0 = 1; give 2 = 1; count 0 = 2; kill 2 = 0",
                "count 0 = 1");
        Script.run("23 count: free pages (1)",
                "count 1 = 19; table 0 0 1 3 = 1; count 1 = 18; frame 1 0 2 3 = 1; count 1 = 17; spawn 2 3 = 1",
                "count 1 = 16; kill 2 = 0; count 1 = 16; reap 2 = 0; count 1 = 17; release 1 0 = 2; count 1 = 18");
        Script.run("23 count: processes that are not free (2)", ALL_STATES,
                "count 2 = 5; reap 5 = 0; count 2 = 4; kill 3 = 0; count 2 = 4; reap 3 = 0; count 2 = 3");
        Script.run("23 count: what it can tell is 0 .. 3",
                "count -1 ! IllegalArgument; count 0 = 1; count 3 = 0; count 4 ! IllegalArgument");
    }

    private static void countOfInts() {
        Script.run("23 count: ints in all pipes (3)", FRAME,
                "count 3 = 0; open 1 0 0 = 1; open 1 1 1 = 1; open 1 2 2 = 1; count 3 = 0; put 0 0 = 1; count 3 = 1",
                "put 1 0 = 1; put 1 0 = 2; count 3 = 3; put 2 0 = 1; count 3 = 4; take 1 0 = 0; count 3 = 3");
        Script.run("23 count: a pipe that two descriptors are of counts once", FRAME,
                "open 1 0 0 = 1; share 0 1 1 = 2; put 0 0 = 1; put 1 0 = 2; count 3 = 2");
        Script.run("23 count: a pipe with a COUNT of 0 is left out", FRAME,
                "open 1 0 0 = 1; open 1 1 2 = 1; put 0 0 = 1; put 1 0 = 1; put 1 0 = 2; close 1 1 = 0; count 3 = 1",
                "close 1 0 = 0; count 3 = 0");
        Script.run("23 count: a pipe whose last descriptor is a ZOMBIE's is counted", FRAME,
                "open 1 0 0 = 1; put 0 0 = 1; spawn 2 5 = 1; share 0 2 3 = 2; close 1 0 = 1; count 3 = 1; kill 2 = 1",
                "count 3 = 1; close 2 3 = 0; count 3 = 0");
    }
}
