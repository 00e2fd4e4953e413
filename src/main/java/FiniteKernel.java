import java.util.NoSuchElementException;

/**
 * A kernel with a finite interface: its callers name every page, entry, descriptor and process
 * that they want, and the kernel only checks and then does it.
 */
public final class FiniteKernel {
    private static final int PROCESSES = 5;
    private static final int PAGES = 20;
    private static final int CELLS = 4;
    private static final int DESCRIPTORS = 4;
    private static final int PIPES = 3;
    private static final int PIPE_ROOM = 4;
    private static final int ADDRESSES = 64;

    private static final int FIRST_PROCESS = 1;
    private static final int FIRST_ROOT = 0;
    private static final int NOBODY = 0;
    private static final int NONE = -1;
    private static final int NO_RIGHTS = 0;
    private static final int DONE = 1;

    private static final int FREE = 0;

    private static final int EMBRYO = 1;
    private static final int READY = 2;
    private static final int RUNNING = 3;
    private static final int WAITING = 4;
    private static final int ZOMBIE = 5;

    private static final int ROOT = 1;
    private static final int TABLE = 2;
    private static final int FRAME = 3;

    private static final int TO_READ = 1;
    private static final int TO_WRITE = 2;
    private static final int ALL_RIGHTS = 3;

    private static final int LAST_OF_PROCESS = 4;
    private static final int LAST_OF_PAGE = 2;
    private static final int LAST_OF_COUNT = 3;

    private final Memory memory;
    private final Processes processes;
    private final Pipes pipes;
    private int caller;

    public FiniteKernel() {
        memory = new Memory();
        processes = new Processes();
        pipes = new Pipes();
        caller = FIRST_PROCESS;
        memory.become(FIRST_ROOT, ROOT, FIRST_PROCESS);
        processes.begin(FIRST_PROCESS, RUNNING, NOBODY, FIRST_ROOT);
    }

    public int spawn(int process, int page) throws IllegalArgumentException, IllegalStateException {
        checkProcess(process);
        checkPage(page);
        if (processes.stateOf(process) != FREE) {
            throw new IllegalStateException("the process is not free");
        }
        checkPageIsFree(page);
        memory.become(page, ROOT, process);
        processes.begin(process, EMBRYO, caller, page);
        return DONE;
    }

    public int table(int root, int entry, int page, int rights)
            throws IllegalArgumentException, UnsupportedOperationException, IllegalStateException {
        return fillEntry(root, ROOT, entry, page, rights);
    }

    public int frame(int table, int entry, int page, int rights)
            throws IllegalArgumentException, UnsupportedOperationException, IllegalStateException {
        return fillEntry(table, TABLE, entry, page, rights);
    }

    public int protect(int page, int entry, int rights)
            throws IllegalArgumentException, UnsupportedOperationException, NoSuchElementException {
        checkPage(page);
        checkEntry(entry);
        checkRights(rights);
        checkMyEntryIsFilled(page, entry);
        int before = memory.rightsIn(page, entry);
        memory.setEntry(page, entry, memory.pageIn(page, entry), rights);
        return before;
    }

    public int copy(int from, int to) throws IllegalArgumentException, UnsupportedOperationException {
        checkPage(from);
        checkPage(to);
        if (!isMyPage(from, FRAME) || !isMyPage(to, FRAME)) {
            throw new UnsupportedOperationException("one of the pages is no frame of the caller's");
        }
        memory.copyWords(from, to);
        return DONE;
    }

    public int release(int page, int entry)
            throws IllegalArgumentException, UnsupportedOperationException, NoSuchElementException,
            IllegalStateException {
        checkPage(page);
        checkEntry(entry);
        checkMyEntryIsFilled(page, entry);
        int released = memory.pageIn(page, entry);
        if (memory.filledEntries(released) > 0) {
            throw new IllegalStateException("the table still has an entry");
        }
        memory.clearEntry(page, entry);
        memory.setFree(released);
        return released;
    }

    public int start(int process) throws IllegalArgumentException, IllegalStateException {
        checkProcess(process);
        if (!isMyChild(process, EMBRYO)) {
            throw new IllegalStateException("the process is no embryo of the caller's");
        }
        processes.setState(process, READY);
        return DONE;
    }

    public int give(int process) throws IllegalArgumentException, IllegalStateException {
        checkProcess(process);
        checkIsReady(process);
        int giver = caller;
        processes.setState(giver, READY);
        run(process);
        return giver;
    }

    public int kill(int process)
            throws IllegalArgumentException, UnsupportedOperationException, IllegalStateException {
        checkProcess(process);
        if (process == FIRST_PROCESS) {
            throw new UnsupportedOperationException("process 1 can't be killed");
        }
        if (process == caller) {
            handOverToNextReady();
        } else if (!isMyLivingChild(process)) {
            throw new IllegalStateException("the process is not the caller or a living child of it");
        }
        processes.setState(process, ZOMBIE);
        return processes.descriptorsInUse(process);
    }

    public int reap(int process) throws IllegalArgumentException, IllegalStateException {
        checkProcess(process);
        if (!isMyChild(process, ZOMBIE)) {
            throw new IllegalStateException("the process is no zombie of the caller's");
        }
        if (holdsMoreThanRoot(process)) {
            throw new IllegalStateException("the zombie still holds a page or a descriptor");
        }
        memory.setFree(processes.rootOf(process));
        processes.end(process);
        return processes.moveChildren(process, FIRST_PROCESS);
    }

    public int open(int process, int descriptor, int pipe)
            throws IllegalArgumentException, UnsupportedOperationException, IllegalStateException {
        checkProcess(process);
        checkDescriptor(descriptor);
        checkPipe(pipe);
        checkIsMine(process);
        checkDescriptorIsUnused(process, descriptor);
        if (processes.descriptorsOfPipe(pipe) > 0) {
            throw new IllegalStateException("the pipe is open already");
        }
        pipes.makeEmpty(pipe);
        return connect(process, descriptor, pipe);
    }

    public int share(int own, int process, int descriptor)
            throws IllegalArgumentException, UnsupportedOperationException, NoSuchElementException,
            IllegalStateException {
        checkDescriptor(own);
        checkProcess(process);
        checkDescriptor(descriptor);
        checkIsMine(process);
        int pipe = pipeBehind(caller, own);
        checkDescriptorIsUnused(process, descriptor);
        return connect(process, descriptor, pipe);
    }

    public int close(int process, int descriptor)
            throws IllegalArgumentException, UnsupportedOperationException, NoSuchElementException {
        checkProcess(process);
        checkDescriptor(descriptor);
        checkIsMine(process);
        int pipe = pipeBehind(process, descriptor);
        processes.setPipe(process, descriptor, NONE);
        return processes.descriptorsOfPipe(pipe);
    }

    public int put(int descriptor, int address)
            throws IllegalArgumentException, NoSuchElementException, UnsupportedOperationException,
            IllegalStateException {
        checkDescriptor(descriptor);
        checkAddress(address);
        int pipe = pipeBehind(caller, descriptor);
        int frame = frameWithRight(address, TO_READ);
        if (pipes.held(pipe) == PIPE_ROOM) {
            throw new IllegalStateException("the pipe is full");
        }
        pipes.append(pipe, memory.word(frame, wordOf(address)));
        return pipes.held(pipe);
    }

    public int take(int descriptor, int address)
            throws IllegalArgumentException, NoSuchElementException, UnsupportedOperationException,
            IllegalStateException {
        checkDescriptor(descriptor);
        checkAddress(address);
        int pipe = pipeBehind(caller, descriptor);
        int frame = frameWithRight(address, TO_WRITE);
        if (pipes.held(pipe) == 0) {
            throw new IllegalStateException("the pipe is empty");
        }
        int taken = pipes.removeFirst(pipe);
        memory.setWord(frame, wordOf(address), taken);
        return taken;
    }

    public int read(int address)
            throws IllegalArgumentException, NoSuchElementException, UnsupportedOperationException {
        checkAddress(address);
        int frame = frameWithRight(address, TO_READ);
        return memory.word(frame, wordOf(address));
    }

    public int write(int address, int value)
            throws IllegalArgumentException, NoSuchElementException, UnsupportedOperationException {
        checkAddress(address);
        int frame = frameWithRight(address, TO_WRITE);
        int before = memory.word(frame, wordOf(address));
        memory.setWord(frame, wordOf(address), value);
        return before;
    }

    public int expect(int process, int address)
            throws IllegalArgumentException, IllegalStateException, NoSuchElementException,
            UnsupportedOperationException {
        checkProcess(process);
        checkAddress(address);
        checkIsReady(process);
        int table = tableAt(address);
        int entry = frameEntryOf(address);
        if (memory.pageIn(table, entry) != NONE) {
            throw new UnsupportedOperationException("the frame entry is not empty");
        }
        processes.await(caller, table, entry);
        run(process);
        return process;
    }

    public int send(int process, int address)
            throws IllegalArgumentException, IllegalStateException, NoSuchElementException {
        checkProcess(process);
        checkAddress(address);
        if (processes.stateOf(process) != WAITING) {
            throw new IllegalStateException("the process is not waiting");
        }
        int table = tableAt(address);
        int entry = frameEntryOf(address);
        int frame = frameAt(address);
        int rights = memory.rightsIn(table, entry);
        memory.clearEntry(table, entry);
        // No call can change the pages of a process that waits, so its table is there and the entry empty.
        memory.setEntry(processes.awaitedTable(process), processes.awaitedEntry(process), frame, rights);
        memory.setOwner(frame, process);
        processes.setState(process, READY);
        return frame;
    }

    public int process(int process, int what) throws IllegalArgumentException {
        checkProcess(process);
        checkWithin(what, 0, LAST_OF_PROCESS);
        switch (what) {
            case 0:
                return processes.stateOf(process);
            case 1:
                return processes.parentOf(process);
            case 2:
                return processes.rootOf(process);
            case 3:
                return memory.pagesOf(process);
            default:
                return processes.descriptorsInUse(process);
        }
    }

    public int page(int page, int what) throws IllegalArgumentException {
        checkPage(page);
        checkWithin(what, 0, LAST_OF_PAGE);
        switch (what) {
            case 0:
                return memory.kindOf(page);
            case 1:
                return memory.ownerOf(page);
            default:
                return memory.filledEntries(page);
        }
    }

    public int count(int what) throws IllegalArgumentException {
        checkWithin(what, 0, LAST_OF_COUNT);
        switch (what) {
            case 0:
                return caller;
            case 1:
                // Free pages are the ones that nobody owns.
                return memory.pagesOf(NOBODY);
            case 2:
                return processes.notFree();
            default:
                return intsInOpenPipes();
        }
    }

    private static void checkWithin(int number, int least, int most) {
        if (number < least || number > most) {
            throw new IllegalArgumentException("a number is out of range");
        }
    }

    private static void checkProcess(int process) {
        checkWithin(process, FIRST_PROCESS, PROCESSES);
    }

    private static void checkPage(int page) {
        checkWithin(page, 0, PAGES - 1);
    }

    private static void checkEntry(int entry) {
        checkWithin(entry, 0, CELLS - 1);
    }

    private static void checkRights(int rights) {
        checkWithin(rights, TO_READ, ALL_RIGHTS);
    }

    private static void checkDescriptor(int descriptor) {
        checkWithin(descriptor, 0, DESCRIPTORS - 1);
    }

    private static void checkPipe(int pipe) {
        checkWithin(pipe, 0, PIPES - 1);
    }

    private static void checkAddress(int address) {
        checkWithin(address, 0, ADDRESSES - 1);
    }

    private static int tableEntryOf(int address) {
        return address / (CELLS * CELLS);
    }

    private static int frameEntryOf(int address) {
        return address / CELLS % CELLS;
    }

    private static int wordOf(int address) {
        return address % CELLS;
    }

    private boolean isMine(int process) {
        return process == caller || isMyChild(process, EMBRYO) || isMyChild(process, ZOMBIE);
    }

    private boolean isMyChild(int process, int state) {
        return processes.parentOf(process) == caller && processes.stateOf(process) == state;
    }

    private boolean isMyLivingChild(int process) {
        int state = processes.stateOf(process);
        return processes.parentOf(process) == caller && state != FREE && state != ZOMBIE;
    }

    private boolean isMyPage(int page, int kind) {
        return memory.kindOf(page) == kind && isMine(memory.ownerOf(page));
    }

    private boolean holdsMoreThanRoot(int process) {
        return memory.pagesOf(process) > 1
                || memory.filledEntries(processes.rootOf(process)) > 0
                || processes.descriptorsInUse(process) > 0;
    }

    private void checkIsMine(int process) {
        if (!isMine(process)) {
            throw new UnsupportedOperationException("the process is not the caller's");
        }
    }

    private void checkIsReady(int process) {
        if (processes.stateOf(process) != READY) {
            throw new IllegalStateException("the process is not ready");
        }
    }

    private void checkPageIsFree(int page) {
        if (memory.kindOf(page) != FREE) {
            throw new IllegalStateException("the page is not free");
        }
    }

    private void checkDescriptorIsUnused(int process, int descriptor) {
        if (processes.pipeOf(process, descriptor) != NONE) {
            throw new IllegalStateException("the descriptor is in use");
        }
    }

    private void checkMyEntryIsFilled(int page, int entry) {
        if (!isMyPage(page, ROOT) && !isMyPage(page, TABLE)) {
            throw new UnsupportedOperationException("the page is no root or table of the caller's");
        }
        if (memory.pageIn(page, entry) == NONE) {
            throw new NoSuchElementException("the entry is empty");
        }
    }

    private int fillEntry(int holder, int holderKind, int entry, int page, int rights) {
        checkPage(holder);
        checkEntry(entry);
        checkPage(page);
        checkRights(rights);
        if (!isMyPage(holder, holderKind)) {
            throw new UnsupportedOperationException("the holder is of another kind or not the caller's");
        }
        checkPageIsFree(page);
        if (memory.pageIn(holder, entry) != NONE) {
            throw new IllegalStateException("the entry is not empty");
        }
        int kind = holderKind == ROOT ? TABLE : FRAME;
        memory.become(page, kind, memory.ownerOf(holder));
        memory.setEntry(holder, entry, page, rights);
        return DONE;
    }

    private int tableAt(int address) {
        int table = memory.pageIn(processes.rootOf(caller), tableEntryOf(address));
        if (table == NONE) {
            throw new NoSuchElementException("the address has no table entry");
        }
        return table;
    }

    private int frameAt(int address) {
        int frame = memory.pageIn(tableAt(address), frameEntryOf(address));
        if (frame == NONE) {
            throw new NoSuchElementException("the address has no frame entry");
        }
        return frame;
    }

    private int frameWithRight(int address, int right) {
        int frame = frameAt(address);
        int rightsToTable = memory.rightsIn(processes.rootOf(caller), tableEntryOf(address));
        int rightsToFrame = memory.rightsIn(tableAt(address), frameEntryOf(address));
        if ((rightsToTable & rightsToFrame & right) == NO_RIGHTS) {
            throw new UnsupportedOperationException("an entry lacks the right");
        }
        return frame;
    }

    private int pipeBehind(int process, int descriptor) {
        int pipe = processes.pipeOf(process, descriptor);
        if (pipe == NONE) {
            throw new NoSuchElementException("there is no such descriptor");
        }
        return pipe;
    }

    private int connect(int process, int descriptor, int pipe) {
        processes.setPipe(process, descriptor, pipe);
        return processes.descriptorsOfPipe(pipe);
    }

    private void run(int process) {
        processes.setState(process, RUNNING);
        caller = process;
    }

    private void handOverToNextReady() {
        int next = processes.nextReady(caller);
        if (next == NOBODY) {
            throw new IllegalStateException("no process is ready to run instead");
        }
        run(next);
    }

    private int intsInOpenPipes() {
        int ints = 0;
        for (int pipe = 0; pipe < PIPES; pipe++) {
            if (processes.descriptorsOfPipe(pipe) > 0) {
                ints += pipes.held(pipe);
            }
        }
        return ints;
    }

    /** Pages, their entries and their words. An entry without a page has no rights. */
    private static final class Memory {
        private final int[] kinds = new int[PAGES];
        private final int[] owners = new int[PAGES];
        private final int[] entryPages = new int[PAGES * CELLS];
        private final int[] entryRights = new int[PAGES * CELLS];
        private final int[] words = new int[PAGES * CELLS];

        Memory() {
            for (int page = 0; page < PAGES; page++) {
                setFree(page);
            }
        }

        void become(int page, int kind, int owner) {
            kinds[page] = kind;
            owners[page] = owner;
            for (int cell = 0; cell < CELLS; cell++) {
                clearEntry(page, cell);
                setWord(page, cell, 0);
            }
        }

        void setFree(int page) {
            become(page, FREE, NOBODY);
        }

        int kindOf(int page) {
            return kinds[page];
        }

        int ownerOf(int page) {
            return owners[page];
        }

        void setOwner(int page, int owner) {
            owners[page] = owner;
        }

        int pageIn(int page, int entry) {
            return entryPages[page * CELLS + entry];
        }

        int rightsIn(int page, int entry) {
            return entryRights[page * CELLS + entry];
        }

        void setEntry(int page, int entry, int inside, int rights) {
            entryPages[page * CELLS + entry] = inside;
            entryRights[page * CELLS + entry] = rights;
        }

        void clearEntry(int page, int entry) {
            setEntry(page, entry, NONE, NO_RIGHTS);
        }

        int filledEntries(int page) {
            int filled = 0;
            for (int entry = 0; entry < CELLS; entry++) {
                if (pageIn(page, entry) != NONE) {
                    filled++;
                }
            }
            return filled;
        }

        int pagesOf(int owner) {
            int owned = 0;
            for (int page = 0; page < PAGES; page++) {
                if (owners[page] == owner) {
                    owned++;
                }
            }
            return owned;
        }

        int word(int page, int cell) {
            return words[page * CELLS + cell];
        }

        void setWord(int page, int cell, int value) {
            words[page * CELLS + cell] = value;
        }

        void copyWords(int from, int to) {
            for (int cell = 0; cell < CELLS; cell++) {
                setWord(to, cell, word(from, cell));
            }
        }
    }

    /** Processes by their numbers; row 0 stands for nobody and stays free. */
    private static final class Processes {
        private final int[] states = new int[PROCESSES + 1];
        private final int[] parents = new int[PROCESSES + 1];
        private final int[] roots = new int[PROCESSES + 1];
        private final int[] descriptors = new int[(PROCESSES + 1) * DESCRIPTORS];
        private final int[] awaitedTables = new int[PROCESSES + 1];
        private final int[] awaitedEntries = new int[PROCESSES + 1];

        Processes() {
            for (int process = 0; process <= PROCESSES; process++) {
                end(process);
            }
        }

        void begin(int process, int state, int parent, int root) {
            states[process] = state;
            parents[process] = parent;
            roots[process] = root;
            for (int descriptor = 0; descriptor < DESCRIPTORS; descriptor++) {
                setPipe(process, descriptor, NONE);
            }
        }

        void end(int process) {
            begin(process, FREE, NOBODY, NONE);
        }

        int stateOf(int process) {
            return states[process];
        }

        void setState(int process, int state) {
            states[process] = state;
        }

        int parentOf(int process) {
            return parents[process];
        }

        int rootOf(int process) {
            return roots[process];
        }

        void await(int process, int table, int entry) {
            states[process] = WAITING;
            awaitedTables[process] = table;
            awaitedEntries[process] = entry;
        }

        int awaitedTable(int process) {
            return awaitedTables[process];
        }

        int awaitedEntry(int process) {
            return awaitedEntries[process];
        }

        int nextReady(int process) {
            for (int step = 0; step < PROCESSES; step++) {
                int next = (process + step) % PROCESSES + 1;
                if (states[next] == READY) {
                    return next;
                }
            }
            return NOBODY;
        }

        int moveChildren(int from, int to) {
            int moved = 0;
            for (int process = FIRST_PROCESS; process <= PROCESSES; process++) {
                if (parents[process] == from) {
                    parents[process] = to;
                    moved++;
                }
            }
            return moved;
        }

        int notFree() {
            int found = 0;
            for (int process = FIRST_PROCESS; process <= PROCESSES; process++) {
                if (states[process] != FREE) {
                    found++;
                }
            }
            return found;
        }

        int pipeOf(int process, int descriptor) {
            return descriptors[process * DESCRIPTORS + descriptor];
        }

        void setPipe(int process, int descriptor, int pipe) {
            descriptors[process * DESCRIPTORS + descriptor] = pipe;
        }

        int descriptorsInUse(int process) {
            int used = 0;
            for (int descriptor = 0; descriptor < DESCRIPTORS; descriptor++) {
                if (pipeOf(process, descriptor) != NONE) {
                    used++;
                }
            }
            return used;
        }

        int descriptorsOfPipe(int pipe) {
            int found = 0;
            for (int place = 0; place < descriptors.length; place++) {
                if (descriptors[place] == pipe) {
                    found++;
                }
            }
            return found;
        }
    }

    /** The ints in the pipes, the first of each pipe at its place 0. */
    private static final class Pipes {
        private final int[] sizes = new int[PIPES];
        private final int[] ints = new int[PIPES * PIPE_ROOM];

        void makeEmpty(int pipe) {
            sizes[pipe] = 0;
        }

        int held(int pipe) {
            return sizes[pipe];
        }

        void append(int pipe, int value) {
            ints[pipe * PIPE_ROOM + sizes[pipe]] = value;
            sizes[pipe]++;
        }

        int removeFirst(int pipe) {
            int first = ints[pipe * PIPE_ROOM];
            sizes[pipe]--;
            for (int place = 0; place < sizes[pipe]; place++) {
                ints[pipe * PIPE_ROOM + place] = ints[pipe * PIPE_ROOM + place + 1];
            }
            return first;
        }
    }
}
