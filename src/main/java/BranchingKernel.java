/**
 * A small kernel: processes whose memory is pages in frames, which run programs word by word,
 * fork, and share what neither of them has written since.
 */
public final class BranchingKernel {
    public static final int NONE = -1;
    public static final int FREE = 0, READY = 1, WAITING = 2, ZOMBIE = 3;
    public static final int OUTSIDE = -11, ILLEGAL = -12, NO_MEMORY = -13, KILLED = -14, NO_PROCESS = -15, BAD_LENGTH = -16;
    public static final int IDLE = 0, RAN = 1, PRINTED = 2, FORKED = 3, SLEPT = 4, ENDED = 5;

    private static final int PROCESSES = 8;
    private static final int REGISTERS = 8;
    private static final int COUNTER = 8;
    private static final int BREAK = 9;
    private static final int PAGES = 8;
    private static final int PAGE_WORDS = 8;
    private static final int WORDS = PAGES * PAGE_WORDS;
    private static final int PRINTS_KEPT = 32;
    private static final int MOST_STEPS = 50;
    private static final int MOST_FRAMES = 32;
    private static final int MOST_QUANTUM = 20;
    /** No code with which an access ends a process is 0. */
    private static final int FINE = 0;

    private final FramePool pool;
    private final Proc[] procs;
    private final PrintLog log;
    private final int[] image;
    private final int quantum;
    /** The number that runs, kept when its process is no longer ready: the next one is looked for behind it. */
    private int current;
    /** How many steps in a row the number that runs has had. */
    private int row;

    public BranchingKernel(int frames, int quantum) {
        this.pool = new FramePool(frames >= 2 && frames <= MOST_FRAMES ? frames : 12);
        this.procs = new Proc[PROCESSES];
        for (int p = 0; p < PROCESSES; p++) {
            this.procs[p] = new Proc();
        }
        this.log = new PrintLog();
        this.image = new int[WORDS];
        this.quantum = quantum >= 1 && quantum <= MOST_QUANTUM ? quantum : 3;
        this.current = NONE;
        this.row = 0;
    }

    public boolean stage(int i, int w) {
        if (i < 0 || i >= WORDS) {
            return false;
        }
        image[i] = w;
        return true;
    }

    public int load(int length) {
        if (length < 1 || length > WORDS) {
            return BAD_LENGTH;
        }
        int number = firstFree();
        if (number == NONE) {
            return NO_PROCESS;
        }
        int pages = (length + PAGE_WORDS - 1) / PAGE_WORDS;
        if (pages > pool.unused()) {
            return NO_MEMORY;
        }
        Proc proc = procs[number];
        proc.begin(NONE);
        proc.limit = length;
        for (int address = 0; address < length; address++) {
            if (ownPage(proc, address / PAGE_WORDS) == FINE) {
                putWord(proc, address, image[address]);
            }
        }
        return number;
    }

    public int step() {
        return takeStep();
    }

    public int steps(int n) {
        if (n < 0 || n > MOST_STEPS) {
            return NONE;
        }
        for (int done = 0; done < n; done++) {
            if (takeStep() == IDLE) {
                return done;
            }
        }
        return n;
    }

    public boolean kill(int p) {
        if (!isLive(p)) {
            return false;
        }
        end(p, KILLED);
        return true;
    }

    public int reap(int p) {
        if (!isZombie(p) || procs[p].parent != NONE) {
            return NONE;
        }
        return procs[p].vacate();
    }

    public int state(int p) {
        return isNumber(p) ? procs[p].state : NONE;
    }

    public int parent(int p) {
        return isNumber(p) ? procs[p].parent : NONE;
    }

    public int code(int p) {
        return isZombie(p) ? procs[p].code : 0;
    }

    public int running() {
        return rowGoesOn() ? current : NONE;
    }

    public int register(int p, int r) {
        if (!isLive(p) || r < 0 || r > BREAK) {
            return 0;
        }
        if (r == COUNTER) {
            return procs[p].counter;
        }
        if (r == BREAK) {
            return procs[p].limit;
        }
        return procs[p].registers[r];
    }

    public int peek(int p, int address) {
        if (!isLive(p) || !procs[p].holds(address)) {
            return 0;
        }
        return wordAt(procs[p], address);
    }

    public int sharing(int p, int i) {
        if (!isLive(p) || i < 0 || i >= PAGES || procs[p].pages[i] == NONE) {
            return 0;
        }
        return pool.users[procs[p].pages[i]];
    }

    public int frames() {
        return pool.used;
    }

    public int printed() {
        return log.count;
    }

    public int print(int k) {
        return log.latest(k);
    }

    // ---- which processes there are

    private static boolean isNumber(int p) {
        return p >= 0 && p < PROCESSES;
    }

    private boolean isLive(int p) {
        return isNumber(p) && (procs[p].state == READY || procs[p].state == WAITING);
    }

    private boolean isZombie(int p) {
        return isNumber(p) && procs[p].state == ZOMBIE;
    }

    private int firstFree() {
        for (int p = 0; p < PROCESSES; p++) {
            if (procs[p].state == FREE) {
                return p;
            }
        }
        return NONE;
    }

    private boolean hasChild(int number) {
        for (int p = 0; p < PROCESSES; p++) {
            if (procs[p].parent == number) {
                return true;
            }
        }
        return false;
    }

    private int firstZombieChild(int number) {
        for (int p = 0; p < PROCESSES; p++) {
            if (procs[p].parent == number && procs[p].state == ZOMBIE) {
                return p;
            }
        }
        return NONE;
    }

    // ---- a step

    private boolean rowGoesOn() {
        return current != NONE && procs[current].state == READY && row < quantum;
    }

    /** The first ready process behind the one that runs; NONE is -1, so that the search begins at 0 where none runs. */
    private int nextReady() {
        for (int k = 1; k <= PROCESSES; k++) {
            int p = (current + k) % PROCESSES;
            if (procs[p].state == READY) {
                return p;
            }
        }
        return NONE;
    }

    private int takeStep() {
        if (!rowGoesOn()) {
            current = nextReady();
            row = 0;
        }
        if (current == NONE) {
            return IDLE;
        }
        row++;
        return fetchAndDo(current);
    }

    private int fetchAndDo(int number) {
        Proc proc = procs[number];
        int fault = touchToRead(proc, proc.counter);
        if (fault != FINE) {
            return end(number, fault);
        }
        int w = wordAt(proc, proc.counter);
        proc.counter++;
        int op = w & 15;
        int a = (w >> 4) & 7;
        int b = (w >> 7) & 7;
        int c = w >> 10;
        return op < 8 ? doOwnOp(number, op, a, b, c) : doKernelOp(number, op, a, c);
    }

    /** The ops that concern registers, counter and memory of the process alone, and the one that prints. */
    private int doOwnOp(int number, int op, int a, int b, int c) {
        Proc proc = procs[number];
        int[] registers = proc.registers;
        switch (op) {
            case 0:
                registers[a] = c;
                return RAN;
            case 1:
                registers[a] = registers[a] + registers[b] + c;
                return RAN;
            case 2:
                registers[a] = registers[a] - registers[b];
                return RAN;
            case 3:
                return readInto(number, a, registers[b] + c);
            case 4:
                return writeFrom(number, a, registers[b] + c);
            case 5:
                return jumpIf(proc, registers[a] != 0, c);
            case 6:
                return jumpIf(proc, registers[a] < registers[b], c);
            default:
                log.append(registers[a]);
                return PRINTED;
        }
    }

    private int doKernelOp(int number, int op, int a, int c) {
        Proc proc = procs[number];
        switch (op) {
            case 8:
                return fork(number, a);
            case 9:
                return moveBreak(number, a, c);
            case 10:
                return end(number, proc.registers[a]);
            case 11:
                return waitForChild(number, a);
            case 12:
                row = quantum;
                return RAN;
            case 13:
                proc.registers[a] = number;
                return RAN;
            default:
                return end(number, ILLEGAL);
        }
    }

    private int readInto(int number, int a, int address) {
        Proc proc = procs[number];
        int fault = touchToRead(proc, address);
        if (fault != FINE) {
            return end(number, fault);
        }
        proc.registers[a] = wordAt(proc, address);
        return RAN;
    }

    private int writeFrom(int number, int a, int address) {
        Proc proc = procs[number];
        int fault = proc.holds(address) ? ownPage(proc, address / PAGE_WORDS) : OUTSIDE;
        if (fault != FINE) {
            return end(number, fault);
        }
        putWord(proc, address, proc.registers[a]);
        return RAN;
    }

    private static int jumpIf(Proc proc, boolean holds, int target) {
        if (holds) {
            proc.counter = target;
        }
        return RAN;
    }

    private int fork(int number, int a) {
        Proc proc = procs[number];
        int childNumber = firstFree();
        if (childNumber == NONE) {
            proc.registers[a] = NONE;
            return RAN;
        }
        Proc child = procs[childNumber];
        child.begin(number);
        child.counter = proc.counter;
        child.limit = proc.limit;
        for (int r = 0; r < REGISTERS; r++) {
            child.registers[r] = proc.registers[r];
        }
        child.registers[a] = 0;
        for (int i = 0; i < PAGES; i++) {
            child.pages[i] = proc.pages[i];
            pool.join(child.pages[i]);
        }
        proc.registers[a] = childNumber;
        return FORKED;
    }

    private int moveBreak(int number, int a, int c) {
        Proc proc = procs[number];
        int oldBreak = proc.limit;
        int newBreak = oldBreak + c;
        if (newBreak < 0 || newBreak > WORDS) {
            proc.registers[a] = NONE;
            return RAN;
        }
        proc.registers[a] = oldBreak;
        proc.limit = newBreak;
        releaseFrom(proc, (newBreak + PAGE_WORDS - 1) / PAGE_WORDS);
        int page = newBreak / PAGE_WORDS;
        if (newBreak >= oldBreak || proc.pages[page] == NONE) {
            return RAN;
        }
        int fault = ownPage(proc, page);
        if (fault != FINE) {
            return end(number, fault);
        }
        clearFrom(proc, newBreak);
        return RAN;
    }

    private int waitForChild(int number, int a) {
        Proc proc = procs[number];
        int child = firstZombieChild(number);
        if (child != NONE) {
            proc.registers[a] = procs[child].vacate();
            return RAN;
        }
        if (!hasChild(number)) {
            proc.registers[a] = NONE;
            return RAN;
        }
        proc.state = WAITING;
        proc.counter--;
        return SLEPT;
    }

    private int end(int number, int code) {
        Proc proc = procs[number];
        releaseFrom(proc, 0);
        proc.state = ZOMBIE;
        proc.code = code;
        for (int p = 0; p < PROCESSES; p++) {
            if (procs[p].parent == number) {
                procs[p].parent = NONE;
            }
        }
        if (proc.parent != NONE && procs[proc.parent].state == WAITING) {
            procs[proc.parent].state = READY;
        }
        return ENDED;
    }

    // ---- memory

    /** FINE when the word at the address can be read now, else the code with which the process ends. */
    private int touchToRead(Proc proc, int address) {
        if (!proc.holds(address)) {
            return OUTSIDE;
        }
        int page = address / PAGE_WORDS;
        if (proc.pages[page] == NONE) {
            proc.pages[page] = pool.take();
        }
        return proc.pages[page] == NONE ? NO_MEMORY : FINE;
    }

    /** FINE when the page is the only one of its class now, else the code with which the process ends. */
    private int ownPage(Proc proc, int page) {
        int before = proc.pages[page];
        if (before != NONE && pool.users[before] == 1) {
            return FINE;
        }
        int own = pool.take();
        if (own == NONE) {
            return NO_MEMORY;
        }
        if (before != NONE) {
            pool.copyWords(before, own);
            pool.leave(before);
        }
        proc.pages[page] = own;
        return FINE;
    }

    /** So that the words from the break to the end of its page are 0 when it grows again. */
    private void clearFrom(Proc proc, int start) {
        int pageEnd = (start / PAGE_WORDS + 1) * PAGE_WORDS;
        for (int address = start; address < pageEnd; address++) {
            putWord(proc, address, 0);
        }
    }

    private void releaseFrom(Proc proc, int firstPage) {
        for (int i = firstPage; i < PAGES; i++) {
            pool.leave(proc.pages[i]);
            proc.pages[i] = NONE;
        }
    }

    private int wordAt(Proc proc, int address) {
        int frame = proc.pages[address / PAGE_WORDS];
        return frame == NONE ? 0 : pool.words[frame * PAGE_WORDS + address % PAGE_WORDS];
    }

    private void putWord(Proc proc, int address, int w) {
        int frame = proc.pages[address / PAGE_WORDS];
        if (frame != NONE) {
            pool.words[frame * PAGE_WORDS + address % PAGE_WORDS] = w;
        }
    }

    /** What one process number holds; kept and used again for each process that has the number. */
    private static final class Proc {
        int state = FREE;
        /** NONE also while the number is free, so that a free one is nobody's child. */
        int parent = NONE;
        int code = 0;
        int counter = 0;
        /** The break, whose own name is a word of Java. */
        int limit = 0;
        final int[] registers = new int[REGISTERS];
        /** The frame of each page, NONE while it is untouched; the pages of one class have the same frame. */
        final int[] pages = new int[PAGES];

        Proc() {
            for (int i = 0; i < PAGES; i++) {
                pages[i] = NONE;
            }
        }

        void begin(int itsParent) {
            state = READY;
            parent = itsParent;
            counter = 0;
            for (int r = 0; r < REGISTERS; r++) {
                registers[r] = 0;
            }
        }

        /** Makes the number free; the code that it had. */
        int vacate() {
            state = FREE;
            parent = NONE;
            return code;
        }

        boolean holds(int address) {
            return address >= 0 && address < limit;
        }
    }

    /** The frames: one for each class of touched pages. */
    private static final class FramePool {
        final int size;
        final int[] words;
        /** How many pages are in the class that each frame holds; 0 when the frame is not in use. */
        final int[] users;
        int used = 0;

        FramePool(int size) {
            this.size = size;
            this.words = new int[size * PAGE_WORDS];
            this.users = new int[size];
        }

        int unused() {
            return size - used;
        }

        /** A frame for a new class of one page, all its words 0; NONE when there is no memory. */
        int take() {
            for (int frame = 0; frame < size; frame++) {
                if (users[frame] == 0) {
                    users[frame] = 1;
                    used++;
                    for (int k = 0; k < PAGE_WORDS; k++) {
                        words[frame * PAGE_WORDS + k] = 0;
                    }
                    return frame;
                }
            }
            return NONE;
        }

        void join(int frame) {
            if (frame != NONE) {
                users[frame]++;
            }
        }

        void leave(int frame) {
            if (frame == NONE) {
                return;
            }
            users[frame]--;
            if (users[frame] == 0) {
                used--;
            }
        }

        void copyWords(int from, int to) {
            for (int k = 0; k < PAGE_WORDS; k++) {
                words[to * PAGE_WORDS + k] = words[from * PAGE_WORDS + k];
            }
        }
    }

    /** The latest printed words, in a ring. */
    private static final class PrintLog {
        final int[] kept = new int[PRINTS_KEPT];
        int count = 0;

        void append(int w) {
            kept[count % PRINTS_KEPT] = w;
            count++;
        }

        int latest(int k) {
            if (k < 0 || k >= PRINTS_KEPT || k >= count) {
                return 0;
            }
            return kept[(count - 1 - k) % PRINTS_KEPT];
        }
    }
}
