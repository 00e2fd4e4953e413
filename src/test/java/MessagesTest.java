/** Promises 19 and 20: messages that hand over pages. */
public final class MessagesTest {
    private static final String FRAME = "table 0 0 1 3 = 1; frame 1 0 2 3 = 1";
    private static final String READY_CHILD = "spawn 2 5 = 1; table 5 0 6 3 = 1; start 2 = 1";
    // Process 2 waits for a frame at its addresses 4 .. 7; process 1 runs.
    private static final String WAITING_CHILD = READY_CHILD + "; give 2 = 1; expect 1 4 = 1";
    // 1 is RUNNING and the parent of all others, 2 an EMBRYO, 3 READY, 4 WAITING, 5 a ZOMBIE.
    private static final String ALL_STATES =
            "spawn 4 8 = 1; table 8 0 9 3 = 1; start 4 = 1; give 4 = 1; expect 1 0 = 1; spawn 2 6 = 1;"
            + "spawn 3 7 = 1; start 3 = 1; spawn 5 10 = 1; kill 5 = 0";

    private MessagesTest() {
    }

    public static void main(String[] args) {
        expect();
        expectRefused();
        send();
        sendIntoTheEntry();
        sendWithTheSameRights();
        sendRefused();
        inTurns();
        Script.finish();
    }

    private static void expect() {
        Script.run("19 expect: the caller becomes WAITING, the process named RUNNING: answers that", READY_CHILD,
                "table 0 0 1 3 = 1; expect 2 0 = 2; process 1 0 = 4; process 2 0 = 3; count 0 = 2");
        Script.run("19 expect: names one that is no parent or child", READY_CHILD,
                "spawn 3 7 = 1; start 3 = 1; give 2 = 1; expect 3 0 = 3; process 2 0 = 4; count 0 = 3");
        Script.run("19 expect: the first and the last address", READY_CHILD,
                "table 0 3 1 3 = 1; give 2 = 1; expect 1 0 = 1; frame 1 0 2 3 = 1; write 51 5 = 0; send 2 48 = 2",
                "expect 2 63 = 2; read 3 = 5; send 1 0 = 2; give 1 = 2; read 63 = 5");
        Script.run("19 expect: rights are not asked for", READY_CHILD,
                "table 0 0 1 1 = 1; table 0 1 3 2 = 1; expect 2 16 = 2; process 1 0 = 4");
        Script.run("19 expect: nothing changes in the table until a message comes", READY_CHILD,
                "table 0 0 1 3 = 1; expect 2 0 = 2; page 1 2 = 0; process 1 3 = 2; count 1 = 16");
    }

    private static void expectRefused() {
        Script.run("19 expect: it is not ready: FREE", FRAME, "expect 2 4 ! IllegalState");
        Script.run("19 expect: it is not ready: in any other state", ALL_STATES, FRAME,
                "expect 1 4 ! IllegalState; expect 2 4 ! IllegalState; expect 4 4 ! IllegalState",
                "expect 5 4 ! IllegalState; expect 3 4 = 3");
        Script.run("19 expect: the address has no table entry", READY_CHILD,
                "expect 2 0 ! NoSuchElement; expect 2 63 ! NoSuchElement; table 0 1 1 3 = 1",
                "expect 2 15 ! NoSuchElement; expect 2 32 ! NoSuchElement; expect 2 16 = 2");
        Script.run("19 expect: the frame entry is not empty", READY_CHILD,
                "table 0 0 1 3 = 1; frame 1 1 2 3 = 1; expect 2 4 ! UnsupportedOperation",
                "expect 2 5 ! UnsupportedOperation; expect 2 7 ! UnsupportedOperation; release 1 1 = 2",
                "expect 2 4 = 2");
        Script.run("19 expect: the entries beside it are not empty", READY_CHILD,
                "table 0 0 1 3 = 1; frame 1 0 2 3 = 1; frame 1 2 3 3 = 1; frame 1 3 4 3 = 1; expect 2 7 = 2");
    }

    private static void send() {
        Script.run("20 send: the frame of an address to a WAITING process, which becomes READY: answers the page",
                WAITING_CHILD, FRAME, "send 2 0 = 2; process 2 0 = 2; process 1 0 = 3; count 0 = 1; page 2 0 = 3");
        Script.run("20 send: the frame's entry here becomes empty", WAITING_CHILD, FRAME,
                "frame 1 1 3 3 = 1; send 2 0 = 2; page 1 2 = 1; read 0 ! NoSuchElement; read 4 = 0",
                "release 1 0 ! NoSuchElement; frame 1 0 4 3 = 1; read 0 = 0");
        Script.run("20 send: its owner becomes that process", WAITING_CHILD, FRAME,
                "process 1 3 = 3; process 2 3 = 2; send 2 0 = 2; page 2 1 = 2; process 1 3 = 2; process 2 3 = 3",
                "count 1 = 15; copy 2 2 ! UnsupportedOperation");
        Script.run("20 send: the words come with it, from the first to the last", WAITING_CHILD, FRAME,
                "write 0 -2147483648 = 0; write 1 5 = 0; write 2 6 = 0; write 3 2147483647 = 0; send 2 2 = 2",
                "give 2 = 1; read 4 = -2147483648; read 5 = 5; read 6 = 6; read 7 = 2147483647");
        Script.run("20 send: by one that was not named", "spawn 3 8 = 1; table 8 2 9 3 = 1; frame 9 1 10 3 = 1",
                "start 3 = 1", WAITING_CHILD, "give 3 = 1; write 36 8 = 0; send 2 36 = 10; count 0 = 3; give 2 = 3",
                "read 4 = 8; process 3 3 = 2; page 10 1 = 2");
    }

    private static void sendIntoTheEntry() {
        for (int awaited = 0; awaited < 64; awaited += 21) {
            Script.run("20 send: into the entry that it waits for, address " + awaited,
                    "spawn 2 5 = 1; table 5 0 6 3 = 1; table 5 1 7 3 = 1; table 5 2 8 3 = 1; table 5 3 9 3 = 1",
                    "start 2 = 1; give 2 = 1; expect 1 " + awaited + " = 1", FRAME,
                    "write " + awaited % 4 + " 3 = 0; send 2 0 = 2; page " + (6 + awaited / 16) + " 2 = 1; give 2 = 1",
                    "read " + awaited + " = 3; protect " + (6 + awaited / 16) + " " + awaited / 4 % 4 + " 3 = 3");
        }
        Script.run("20 send: two that wait, each for an entry of its own",
                "spawn 2 5 = 1; table 5 0 6 3 = 1; start 2 = 1; spawn 3 8 = 1; table 8 2 9 3 = 1; start 3 = 1", FRAME,
                "frame 1 1 3 3 = 1; write 0 20 = 0; write 4 30 = 0; give 2 = 1; expect 3 4 = 3; expect 1 40 = 1",
                "send 3 4 = 3; send 2 0 = 2; page 6 2 = 1; page 9 2 = 1; give 3 = 1; read 40 = 30; give 2 = 3",
                "read 4 = 20");
    }

    private static void sendWithTheSameRights() {
        for (int rights = 1; rights <= 3; rights++) {
            Script.run("20 send: with the same rights, " + rights, WAITING_CHILD,
                    "table 0 0 1 3 = 1; frame 1 0 2 " + rights + " = 1; send 2 0 = 2; give 2 = 1",
                    "read 4 " + (rights == 2 ? "! UnsupportedOperation" : "= 0"),
                    "write 4 1 " + (rights == 1 ? "! UnsupportedOperation" : "= 0"),
                    "protect 6 1 3 = " + rights);
        }
        Script.run("20 send: the rights to the tables stay, there and here", WAITING_CHILD,
                "table 0 0 1 1 = 1; frame 1 0 2 2 = 1; read 0 ! UnsupportedOperation; write 0 1 ! UnsupportedOperation",
                "send 2 0 = 2; protect 0 0 3 = 1; give 2 = 1; protect 5 0 1 = 3; protect 6 1 3 = 2");
    }

    private static void sendRefused() {
        Script.run("20 send: it is not WAITING: FREE", FRAME, "send 2 0 ! IllegalState");
        Script.run("20 send: it is not WAITING: in any other state", ALL_STATES, FRAME,
                "send 1 0 ! IllegalState; send 2 0 ! IllegalState; send 3 0 ! IllegalState; send 5 0 ! IllegalState",
                "send 4 0 = 2");
        Script.run("20 send: it is not WAITING any more", WAITING_CHILD, FRAME,
                "frame 1 1 3 3 = 1; send 2 0 = 2; send 2 4 ! IllegalState; give 2 = 1; give 1 = 2",
                "send 2 4 ! IllegalState");
        Script.run("20 send: it waited and is a ZOMBIE", WAITING_CHILD, FRAME, "kill 2 = 0; send 2 0 ! IllegalState");
        Script.run("20 send: the table's entry lacks", WAITING_CHILD, "send 2 0 ! NoSuchElement", FRAME,
                "send 2 16 ! NoSuchElement; send 2 63 ! NoSuchElement");
        Script.run("20 send: the frame's entry lacks", WAITING_CHILD,
                "table 0 0 1 3 = 1; send 2 0 ! NoSuchElement; frame 1 0 2 3 = 1; send 2 4 ! NoSuchElement",
                "send 2 15 ! NoSuchElement; process 2 0 = 4; send 2 3 = 2");
    }

    private static void inTurns() {
        Script.run("19 and 20: a frame goes to and fro", WAITING_CHILD, FRAME,
                "write 0 1 = 0; send 2 0 = 2; expect 2 12 = 2; read 4 = 1; write 4 2 = 1; send 1 4 = 2; give 1 = 2",
                "read 12 = 2; page 2 1 = 1; read 0 ! NoSuchElement; give 2 = 1; read 4 ! NoSuchElement",
                "expect 1 4 = 1; send 2 12 = 2; process 2 3 = 3");
        Script.run("19 and 20: it waits for another entry the second time", WAITING_CHILD, FRAME,
                "frame 1 1 3 3 = 1; write 4 9 = 0; send 2 0 = 2; give 2 = 1; expect 1 4 ! UnsupportedOperation",
                "expect 1 8 = 1; send 2 4 = 3; give 2 = 1; read 4 = 0; read 8 = 9; page 6 2 = 2");
    }
}
