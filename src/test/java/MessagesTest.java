/** Promises 19 and 20: messages that hand over pages. */
public final class MessagesTest {
    private MessagesTest() {
    }

    public static void main(String[] args) {
        expect();
        send();
        sendKeepsRights();
        sendBySomebodyElse();
        Script.finish();
    }

    private static void expect() {
        Script.run("19 expect",
                "expect 2 0 ! IllegalState", "expect 1 0 ! IllegalState", "spawn 2 5 = 1", "expect 2 0 ! IllegalState",
                "start 2 = 1", "expect 2 0 ! NoSuchElement", "expect 2 63 ! NoSuchElement", "table 0 0 1 2 = 1",
                "frame 1 1 2 2 = 1", "expect 2 4 ! UnsupportedOperation", "expect 2 7 ! UnsupportedOperation",
                "expect 1 4 ! IllegalState", "expect 2 3 = 2", "process 1 0 = 4", "process 2 0 = 3", "count 0 = 2",
                "expect 1 0 ! IllegalState");
        Script.run("19 expect with every process but one waiting",
                "spawn 2 5 = 1", "start 2 = 1", "table 0 0 1 3 = 1", "expect 2 0 = 2", "table 5 0 6 3 = 1",
                "expect 1 0 ! IllegalState", "expect 2 0 ! IllegalState", "kill 2 ! IllegalState");
    }

    private static void send() {
        Script.run("20 send",
                "spawn 2 5 = 1", "table 5 1 6 3 = 1", "start 2 = 1", "table 0 0 1 3 = 1", "frame 1 2 2 3 = 1",
                "write 8 5 = 0", "write 11 6 = 0", "send 2 8 ! IllegalState", "send 1 8 ! IllegalState",
                "send 3 8 ! IllegalState", "send 2 63 ! IllegalState", "give 2 = 1", "expect 1 29 = 1",
                "send 2 0 ! NoSuchElement", "send 2 16 ! NoSuchElement", "send 2 9 = 2", "process 2 0 = 2",
                "count 0 = 1", "page 2 0 = 3", "page 2 1 = 2", "page 1 2 = 0", "page 6 2 = 1", "process 1 3 = 2",
                "process 2 3 = 3", "read 8 ! NoSuchElement", "send 2 8 ! IllegalState", "give 2 = 1",
                "read 28 = 5", "read 29 = 0", "read 31 = 6", "read 24 ! NoSuchElement", "release 6 3 = 2",
                "page 2 1 = 0");
        Script.run("20 send and wait again in turns",
                "spawn 2 5 = 1", "table 5 0 6 3 = 1", "start 2 = 1", "table 0 0 1 3 = 1", "frame 1 0 2 3 = 1",
                "give 2 = 1", "expect 1 0 = 1", "send 2 0 = 2", "expect 2 12 = 2", "write 0 3 = 0", "send 1 0 = 2",
                "give 1 = 2", "read 12 = 3", "page 2 1 = 1", "frame 1 0 3 3 = 1");
    }

    private static void sendKeepsRights() {
        Script.run("20 send needs no rights and keeps them",
                "spawn 2 5 = 1", "table 5 0 6 3 = 1", "start 2 = 1", "give 2 = 1", "expect 1 0 = 1",
                "table 0 0 1 1 = 1", "frame 1 0 2 2 = 1", "read 0 ! UnsupportedOperation",
                "write 0 1 ! UnsupportedOperation", "send 2 0 = 2", "give 2 = 1", "read 0 ! UnsupportedOperation",
                "write 0 1 = 0", "protect 6 0 3 = 2", "read 0 = 1");
    }

    private static void sendBySomebodyElse() {
        Script.run("20 send by one that was not named",
                "spawn 2 5 = 1", "table 5 0 6 3 = 1", "spawn 3 7 = 1", "table 7 2 8 3 = 1", "frame 8 1 9 3 = 1",
                "start 2 = 1", "start 3 = 1", "give 2 = 1", "expect 1 4 = 1", "give 3 = 1", "write 36 8 = 0",
                "send 2 36 = 9", "count 0 = 3", "give 2 = 3", "read 4 = 8", "process 3 3 = 2");
    }
}
