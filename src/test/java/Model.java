import java.util.ArrayDeque;
import java.util.ArrayList;
import java.util.Deque;
import java.util.List;
import java.util.NoSuchElementException;

/**
 * A second kernel for comparison, of linked objects instead of rows of numbers, so that a slip in one
 * of the two shows as a difference.
 */
final class Model {
    enum State { FREE, EMBRYO, READY, RUNNING, WAITING, ZOMBIE }

    enum Kind { FREE, ROOT, TABLE, FRAME }

    static final class Entry {
        Page page;
        int rights;

        boolean allows(int right) {
            return rights == 3 || rights == right;
        }
    }

    static final class Page {
        final int number;
        Kind kind = Kind.FREE;
        Process owner;
        Entry[] entries = new Entry[4];
        int[] words = new int[4];

        Page(int number) {
            this.number = number;
        }

        void turnInto(Kind newKind, Process newOwner) {
            kind = newKind;
            owner = newOwner;
            entries = new Entry[4];
            words = new int[4];
        }

        int filled() {
            int filled = 0;
            for (Entry entry : entries) {
                filled += entry == null ? 0 : 1;
            }
            return filled;
        }
    }

    static final class Pipe {
        final Deque<Integer> ints = new ArrayDeque<>();
        int count;
    }

    static final class Process {
        final int number;
        State state = State.FREE;
        Process parent;
        Page root;
        Pipe[] descriptors = new Pipe[4];
        int awaited;

        Process(int number) {
            this.number = number;
        }

        int inUse() {
            int used = 0;
            for (Pipe pipe : descriptors) {
                used += pipe == null ? 0 : 1;
            }
            return used;
        }
    }

    final List<Page> pages = new ArrayList<>();
    final List<Process> processes = new ArrayList<>();
    final List<Pipe> pipes = new ArrayList<>();
    Process caller;

    Model() {
        for (int number = 0; number < 20; number++) {
            pages.add(new Page(number));
        }
        for (int number = 1; number <= 5; number++) {
            processes.add(new Process(number));
        }
        for (int number = 0; number < 3; number++) {
            pipes.add(new Pipe());
        }
        caller = processes.get(0);
        caller.state = State.RUNNING;
        caller.root = pages.get(0);
        caller.root.turnInto(Kind.ROOT, caller);
    }

    /** The answer as a text, or the simple name of what is thrown. */
    String answer(String name, int... n) {
        try {
            return String.valueOf(call(name, n));
        } catch (IllegalArgumentException | IllegalStateException | UnsupportedOperationException
                | NoSuchElementException thrown) {
            return thrown.getClass().getSimpleName();
        }
    }

    private int call(String name, int[] n) {
        switch (name) {
            case "spawn": return spawn(process(n[0]), page(n[1]));
            case "table": return fill(Kind.ROOT, Kind.TABLE, page(n[0]), four(n[1]), page(n[2]), rights(n[3]));
            case "frame": return fill(Kind.TABLE, Kind.FRAME, page(n[0]), four(n[1]), page(n[2]), rights(n[3]));
            case "protect": return protect(page(n[0]), four(n[1]), rights(n[2]));
            case "copy": return copy(page(n[0]), page(n[1]));
            case "release": return release(page(n[0]), four(n[1]));
            case "start": return start(process(n[0]));
            case "give": return give(process(n[0]));
            case "kill": return kill(process(n[0]));
            case "reap": return reap(process(n[0]));
            case "open": return open(process(n[0]), four(n[1]), pipe(n[2]));
            case "share": return share(four(n[0]), process(n[1]), four(n[2]));
            case "close": return close(process(n[0]), four(n[1]));
            case "put": return put(four(n[0]), address(n[1]));
            case "take": return take(four(n[0]), address(n[1]));
            case "read": return lookUp(address(n[0]), 1).words[n[0] % 4];
            case "write": return write(address(n[0]), n[1]);
            case "expect": return expect(process(n[0]), address(n[1]));
            case "send": return send(process(n[0]), address(n[1]));
            case "process": return ofProcess(process(n[0]), within(n[1], 0, 4));
            case "page": return ofPage(page(n[0]), within(n[1], 0, 2));
            case "count": return ofAll(within(n[0], 0, 3));
            default: throw new AssertionError(name);
        }
    }

    private static int within(int number, int low, int high) {
        need(number >= low && number <= high, new IllegalArgumentException());
        return number;
    }

    private static int four(int number) {
        return within(number, 0, 3);
    }

    private static int rights(int number) {
        return within(number, 1, 3);
    }

    private static int address(int number) {
        return within(number, 0, 63);
    }

    private Process process(int number) {
        return processes.get(within(number, 1, 5) - 1);
    }

    private Page page(int number) {
        return pages.get(within(number, 0, 19));
    }

    private Pipe pipe(int number) {
        return pipes.get(within(number, 0, 2));
    }

    private static void need(boolean holds, RuntimeException otherwise) {
        if (!holds) {
            throw otherwise;
        }
    }

    private boolean mine(Process process) {
        if (process == null) {
            return false;
        }
        boolean lifeless = process.state == State.EMBRYO || process.state == State.ZOMBIE;
        return process == caller || lifeless && process.parent == caller;
    }

    private void needMine(Process process) {
        need(mine(process), new UnsupportedOperationException());
    }

    private int spawn(Process process, Page page) {
        need(process.state == State.FREE && page.kind == Kind.FREE, new IllegalStateException());
        page.turnInto(Kind.ROOT, process);
        process.state = State.EMBRYO;
        process.parent = caller;
        process.root = page;
        process.descriptors = new Pipe[4];
        return 1;
    }

    private int fill(Kind holderKind, Kind kind, Page holder, int place, Page page, int rights) {
        need(holder.kind == holderKind && mine(holder.owner), new UnsupportedOperationException());
        need(page.kind == Kind.FREE && holder.entries[place] == null, new IllegalStateException());
        page.turnInto(kind, holder.owner);
        holder.entries[place] = new Entry();
        holder.entries[place].page = page;
        holder.entries[place].rights = rights;
        return 1;
    }

    private Entry entryOfMine(Page page, int place) {
        need((page.kind == Kind.ROOT || page.kind == Kind.TABLE) && mine(page.owner),
                new UnsupportedOperationException());
        need(page.entries[place] != null, new NoSuchElementException());
        return page.entries[place];
    }

    private int protect(Page page, int place, int rights) {
        Entry entry = entryOfMine(page, place);
        int before = entry.rights;
        entry.rights = rights;
        return before;
    }

    private int copy(Page from, Page to) {
        need(from.kind == Kind.FRAME && mine(from.owner), new UnsupportedOperationException());
        need(to.kind == Kind.FRAME && mine(to.owner), new UnsupportedOperationException());
        to.words = from.words.clone();
        return 1;
    }

    private int release(Page page, int place) {
        Page inside = entryOfMine(page, place).page;
        need(inside.kind != Kind.TABLE || inside.filled() == 0, new IllegalStateException());
        page.entries[place] = null;
        inside.turnInto(Kind.FREE, null);
        return inside.number;
    }

    private int start(Process process) {
        need(process.state == State.EMBRYO && process.parent == caller, new IllegalStateException());
        process.state = State.READY;
        return 1;
    }

    private int give(Process process) {
        need(process.state == State.READY, new IllegalStateException());
        int giver = caller.number;
        caller.state = State.READY;
        process.state = State.RUNNING;
        caller = process;
        return giver;
    }

    private int kill(Process process) {
        need(process.number != 1, new UnsupportedOperationException());
        need(process == caller || process.parent == caller, new IllegalStateException());
        need(process.state != State.FREE && process.state != State.ZOMBIE, new IllegalStateException());
        if (process == caller) {
            Process next = nextReady();
            need(next != null, new IllegalStateException());
            next.state = State.RUNNING;
            caller = next;
        }
        process.state = State.ZOMBIE;
        return process.inUse();
    }

    private Process nextReady() {
        List<Process> around = new ArrayList<>(processes.subList(caller.number, 5));
        around.addAll(processes.subList(0, caller.number));
        for (Process process : around) {
            if (process.state == State.READY) {
                return process;
            }
        }
        return null;
    }

    private int reap(Process process) {
        need(process.state == State.ZOMBIE && process.parent == caller, new IllegalStateException());
        for (Page page : pages) {
            need(page.owner != process || page == process.root, new IllegalStateException());
        }
        need(process.root.filled() == 0 && process.inUse() == 0, new IllegalStateException());
        process.root.turnInto(Kind.FREE, null);
        process.root = null;
        process.parent = null;
        process.state = State.FREE;
        int children = 0;
        for (Process child : processes) {
            if (child.parent == process) {
                child.parent = processes.get(0);
                children++;
            }
        }
        return children;
    }

    private int open(Process process, int place, Pipe pipe) {
        needMine(process);
        need(process.descriptors[place] == null && pipe.count == 0, new IllegalStateException());
        pipe.ints.clear();
        process.descriptors[place] = pipe;
        return ++pipe.count;
    }

    private int share(int own, Process process, int place) {
        needMine(process);
        Pipe pipe = caller.descriptors[own];
        need(pipe != null, new NoSuchElementException());
        need(process.descriptors[place] == null, new IllegalStateException());
        process.descriptors[place] = pipe;
        return ++pipe.count;
    }

    private int close(Process process, int place) {
        needMine(process);
        Pipe pipe = process.descriptors[place];
        need(pipe != null, new NoSuchElementException());
        process.descriptors[place] = null;
        return --pipe.count;
    }

    private Page lookUp(int address, int right) {
        Entry first = caller.root.entries[address >> 4];
        need(first != null, new NoSuchElementException());
        Entry second = first.page.entries[address >> 2 & 3];
        need(second != null, new NoSuchElementException());
        need(first.allows(right) && second.allows(right), new UnsupportedOperationException());
        return second.page;
    }

    private int put(int descriptor, int address) {
        Pipe pipe = caller.descriptors[descriptor];
        need(pipe != null, new NoSuchElementException());
        Page frame = lookUp(address, 1);
        need(pipe.ints.size() < 4, new IllegalStateException());
        pipe.ints.addLast(frame.words[address & 3]);
        return pipe.ints.size();
    }

    private int take(int descriptor, int address) {
        Pipe pipe = caller.descriptors[descriptor];
        need(pipe != null, new NoSuchElementException());
        Page frame = lookUp(address, 2);
        need(!pipe.ints.isEmpty(), new IllegalStateException());
        frame.words[address & 3] = pipe.ints.removeFirst();
        return frame.words[address & 3];
    }

    private int write(int address, int value) {
        Page frame = lookUp(address, 2);
        int before = frame.words[address & 3];
        frame.words[address & 3] = value;
        return before;
    }

    private int expect(Process process, int address) {
        need(process.state == State.READY, new IllegalStateException());
        Entry first = caller.root.entries[address >> 4];
        need(first != null, new NoSuchElementException());
        need(first.page.entries[address >> 2 & 3] == null, new UnsupportedOperationException());
        caller.awaited = address;
        caller.state = State.WAITING;
        process.state = State.RUNNING;
        caller = process;
        return process.number;
    }

    private int send(Process process, int address) {
        need(process.state == State.WAITING, new IllegalStateException());
        Entry first = caller.root.entries[address >> 4];
        need(first != null, new NoSuchElementException());
        Entry second = first.page.entries[address >> 2 & 3];
        need(second != null, new NoSuchElementException());
        first.page.entries[address >> 2 & 3] = null;
        Page target = process.root.entries[process.awaited >> 4].page;
        target.entries[process.awaited >> 2 & 3] = second;
        second.page.owner = process;
        process.state = State.READY;
        return second.page.number;
    }

    private int ofProcess(Process process, int what) {
        int owned = 0;
        for (Page page : pages) {
            owned += page.owner == process ? 1 : 0;
        }
        int parent = process.parent == null ? 0 : process.parent.number;
        int root = process.root == null ? -1 : process.root.number;
        return new int[] {process.state.ordinal(), parent, root, owned, process.inUse()}[what];
    }

    private int ofPage(Page page, int what) {
        int owner = page.owner == null ? 0 : page.owner.number;
        return new int[] {page.kind.ordinal(), owner, page.filled()}[what];
    }

    private int ofAll(int what) {
        int free = 0;
        for (Page page : pages) {
            free += page.kind == Kind.FREE ? 1 : 0;
        }
        int living = 0;
        for (Process process : processes) {
            living += process.state == State.FREE ? 0 : 1;
        }
        int ints = 0;
        for (Pipe pipe : pipes) {
            ints += pipe.count > 0 ? pipe.ints.size() : 0;
        }
        return new int[] {caller.number, free, living, ints}[what];
    }
}
