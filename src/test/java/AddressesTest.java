/** Promises 17 and 18: words read and written at addresses. */
public final class AddressesTest {
    private static final String FRAME = "table 0 0 1 3 = 1; frame 1 0 2 3 = 1";

    private AddressesTest() {
    }

    public static void main(String[] args) {
        read();
        write();
        ofTheCaller();
        Script.finish();
    }

    private static void read() {
        Script.run("17 read: the word at an address", FRAME, "write 2 9 = 0; read 2 = 9; read 2 = 9; read 1 = 0");
        Script.run("17 read: the table's entry lacks", "read 0 ! NoSuchElement; read 63 ! NoSuchElement", FRAME,
                "read 16 ! NoSuchElement; read 63 ! NoSuchElement");
        Script.run("17 read: the frame's entry lacks",
                "table 0 0 1 3 = 1; read 0 ! NoSuchElement; frame 1 0 2 3 = 1; read 4 ! NoSuchElement",
                "read 15 ! NoSuchElement; release 1 0 = 2; read 0 ! NoSuchElement");
        Script.run("17 read: no right to read in the root", FRAME,
                "protect 0 0 2 = 3; read 0 ! UnsupportedOperation; protect 0 0 1 = 2; read 0 = 0");
        Script.run("17 read: no right to read in the table", FRAME,
                "protect 1 0 2 = 3; read 0 ! UnsupportedOperation; protect 1 0 1 = 2; read 0 = 0");
        Script.run("17 read: a right in each, but not the same",
                "table 0 0 1 1 = 1; frame 1 0 2 2 = 1; read 0 ! UnsupportedOperation; protect 0 0 2 = 1",
                "protect 1 0 1 = 2; read 0 ! UnsupportedOperation");
    }

    private static void write() {
        Script.run("18 write: answers what it was", FRAME,
                "write 2 9 = 0; write 2 -9 = 9; write 2 -9 = -9; write 2 0 = -9; read 2 = 0; read 1 = 0; read 3 = 0");
        Script.run("18 write: the table's entry lacks", "write 0 5 ! NoSuchElement; write 63 5 ! NoSuchElement", FRAME,
                "write 16 5 ! NoSuchElement; write 63 5 ! NoSuchElement");
        Script.run("18 write: the frame's entry lacks",
                "table 0 0 1 3 = 1; write 0 5 ! NoSuchElement; frame 1 0 2 3 = 1; write 4 5 ! NoSuchElement",
                "write 15 5 ! NoSuchElement; release 1 0 = 2; write 0 5 ! NoSuchElement");
        Script.run("18 write: no right to write in the root", FRAME,
                "write 0 4 = 0; protect 0 0 1 = 3; write 0 5 ! UnsupportedOperation; read 0 = 4; protect 0 0 2 = 1",
                "write 0 5 = 4");
        Script.run("18 write: no right to write in the table", FRAME,
                "write 0 4 = 0; protect 1 0 1 = 3; write 0 5 ! UnsupportedOperation; read 0 = 4; protect 1 0 2 = 1",
                "write 0 5 = 4");
        Script.run("18 write: a right in each, but not the same",
                "table 0 0 1 1 = 1; frame 1 0 2 2 = 1; write 0 5 ! UnsupportedOperation; protect 0 0 2 = 1",
                "protect 1 0 1 = 2; write 0 5 ! UnsupportedOperation");
    }

    private static void ofTheCaller() {
        Script.run("17 and 18: an address is the caller's, whoever that is", FRAME,
                "write 0 7 = 0; spawn 2 5 = 1; start 2 = 1; give 2 = 1; read 0 ! NoSuchElement",
                "write 0 7 ! NoSuchElement; table 5 0 6 3 = 1; frame 6 0 7 3 = 1; read 0 = 0; write 0 8 = 0",
                "give 1 = 2; read 0 = 7");
        Script.run("17: an address of a process with another root", "spawn 2 19 = 1; table 19 3 18 3 = 1",
                "frame 18 3 17 3 = 1; start 2 = 1; read 63 ! NoSuchElement; give 2 = 1; write 63 1 = 0; read 63 = 1");
    }
}
