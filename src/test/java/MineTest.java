/** The term MINE, of a page and of a process, for every kin of the caller and every state. */
public final class MineTest {
    // Each of the five calls, on root 5, table 6 and frame 7 of somebody.
    private static final String PAGES_MINE =
            "table 5 1 8 3 = 1; frame 6 1 9 3 = 1; protect 5 0 1 = 3; protect 6 0 2 = 3; copy 7 9 = 1;"
            + "release 6 0 = 7; release 5 1 = 8";
    private static final String PAGES_NOT_MINE =
            "table 5 1 8 3 ! UnsupportedOperation; frame 6 1 9 3 ! UnsupportedOperation;"
            + "protect 5 0 1 ! UnsupportedOperation; protect 6 0 2 ! UnsupportedOperation;"
            + "copy 7 7 ! UnsupportedOperation; release 6 0 ! UnsupportedOperation;"
            + "release 5 0 ! UnsupportedOperation";

    // Somebody is process 2 with pages and a descriptor, or process 3, a child of process 2.
    private static final String CHILD =
            "spawn 2 5 = 1; table 5 0 6 3 = 1; frame 6 0 7 3 = 1; open 2 0 0 = 1; open 1 0 1 = 1";
    private static final String GRANDCHILD =
            "open 1 0 1 = 1; spawn 2 10 = 1; start 2 = 1; give 2 = 1; spawn 3 5 = 1; table 5 0 6 3 = 1;"
            + "frame 6 0 7 3 = 1; open 3 0 0 = 1";

    private MineTest() {
    }

    public static void main(String[] args) {
        children();
        grandchildren();
        others();
        ownPages();
        pagesOfNobody();
        Script.finish();
    }

    private static String processMine(int process) {
        return "share 0 " + process + " 1 = 2; open " + process + " 2 2 = 1; close " + process + " 0 = 0";
    }

    private static String processNotMine(int process) {
        return "share 0 " + process + " 1 ! UnsupportedOperation; open " + process
                + " 2 2 ! UnsupportedOperation; close " + process + " 0 ! UnsupportedOperation";
    }

    private static void mine(String who, int process, String... parts) {
        Script.run("MINE are the pages of " + who, String.join(";", parts), PAGES_MINE);
        Script.run("MINE is, as a process, " + who, String.join(";", parts), processMine(process));
    }

    private static void notMine(String who, int process, String... parts) {
        Script.run("MINE are not the pages of " + who, String.join(";", parts), PAGES_NOT_MINE);
        Script.run("MINE is not, as a process, " + who, String.join(";", parts), processNotMine(process));
    }

    private static void children() {
        mine("an EMBRYO of the caller", 2, CHILD);
        mine("a ZOMBIE of the caller", 2, CHILD, "start 2 = 1; kill 2 = 1");
        mine("a ZOMBIE of the caller that killed itself", 2, CHILD, "start 2 = 1; give 2 = 1; kill 2 = 1");
        notMine("a READY child", 2, CHILD, "start 2 = 1");
        notMine("a WAITING child", 2, CHILD, "start 2 = 1; give 2 = 1; expect 1 4 = 1");
        mine("a child that was WAITING and is a ZOMBIE", 2, CHILD,
                "start 2 = 1; give 2 = 1; expect 1 4 = 1; kill 2 = 1");
    }

    private static void grandchildren() {
        notMine("an EMBRYO of a child", 3, GRANDCHILD, "give 1 = 2");
        notMine("a ZOMBIE of a child", 3, GRANDCHILD, "kill 3 = 1; give 1 = 2");
        notMine("an EMBRYO of a ZOMBIE of the caller", 3, GRANDCHILD, "give 1 = 2; kill 2 = 0");
        mine("an EMBRYO that the caller was given by a reap", 3, GRANDCHILD, "give 1 = 2; kill 2 = 0; reap 2 = 1");
        mine("a ZOMBIE that the caller was given by a reap", 3, GRANDCHILD,
                "kill 3 = 1; give 1 = 2; kill 2 = 0; reap 2 = 1");
        notMine("a READY process that the caller was given by a reap", 3, GRANDCHILD,
                "start 3 = 1; give 1 = 2; kill 2 = 0; reap 2 = 1");
    }

    private static void others() {
        String sister = "spawn 4 11 = 1; open 4 0 1 = 1; start 4 = 1;"
                + "spawn 2 5 = 1; table 5 0 6 3 = 1; frame 6 0 7 3 = 1; open 2 0 0 = 1";
        notMine("an EMBRYO of the caller's parent", 2, sister, "give 4 = 1");
        notMine("a ZOMBIE of the caller's parent", 2, sister, "kill 2 = 1; give 4 = 1");
        notMine("a READY child of the caller's parent", 2, sister, "start 2 = 1; give 4 = 1");
        Script.run("MINE are not the pages of the caller's parent",
                "table 0 0 1 3 = 1; frame 1 0 2 3 = 1; spawn 4 11 = 1; start 4 = 1; give 4 = 1",
                "table 0 1 8 3 ! UnsupportedOperation; frame 1 1 9 3 ! UnsupportedOperation",
                "protect 0 0 1 ! UnsupportedOperation; protect 1 0 2 ! UnsupportedOperation",
                "copy 2 2 ! UnsupportedOperation; release 1 0 ! UnsupportedOperation");
        Script.run("MINE is not, as a process, the caller's parent",
                "open 1 0 0 = 1; spawn 4 11 = 1; open 4 0 1 = 1; start 4 = 1; give 4 = 1", processNotMine(1));
        Script.run("MINE is not, as a process, one that is FREE",
                "open 1 0 1 = 1; open 2 2 2 ! UnsupportedOperation; share 0 2 1 ! UnsupportedOperation",
                "close 2 0 ! UnsupportedOperation");
        Script.run("MINE is not, as a process, one that was MINE and is FREE again",
                "open 1 0 1 = 1; spawn 2 5 = 1; kill 2 = 0; reap 2 = 0; open 2 2 2 ! UnsupportedOperation",
                "share 0 2 1 ! UnsupportedOperation; close 2 0 ! UnsupportedOperation");
    }

    private static void ownPages() {
        String itself = CHILD + "; close 1 0 = 0; start 2 = 1; give 2 = 1";
        Script.run("MINE are the caller's own pages", itself, PAGES_MINE);
        Script.run("MINE is, as a process, the caller itself", itself,
                "share 0 2 1 = 2; open 2 2 2 = 1; close 2 0 = 1; close 2 1 = 0");
        Script.run("MINE are pages that were sent to the caller",
                "table 0 0 1 3 = 1; frame 1 0 2 3 = 1", CHILD, "start 2 = 1; give 2 = 1; expect 1 4 = 1",
                "send 2 0 = 2; copy 2 2 ! UnsupportedOperation; give 2 = 1; copy 2 7 = 1; release 6 1 = 2");
    }

    private static void pagesOfNobody() {
        Script.run("MINE are not pages that are FREE",
                "table 5 1 8 3 ! UnsupportedOperation; frame 6 1 9 3 ! UnsupportedOperation",
                "protect 5 0 1 ! UnsupportedOperation; copy 7 7 ! UnsupportedOperation",
                "release 6 0 ! UnsupportedOperation");
        Script.run("MINE are not pages that were MINE and are FREE again", CHILD,
                "kill 2 = 1; release 6 0 = 7; release 5 0 = 6; close 2 0 = 0; reap 2 = 0", PAGES_NOT_MINE);
    }
}
