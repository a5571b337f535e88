/** What each op of a step does, which process a step runs, and what the classes of pages do. */
public final class StepTest {
    private static final Check check = new Check();

    public static void main(String[] args) {
        arithmetic();
        partsOfAWord();
        readAndWrite();
        outside();
        jumps();
        fork();
        forkWithoutFree();
        breakMoves();
        breakRefused();
        breakInASharedPage();
        breakInASharedPageWithoutMemory();
        breakReleasesFirst();
        exitCodes();
        awaitTakesTheFirstZombie();
        awaitWithoutChildren();
        awaitSleeps();
        endOfARow();
        ownNumber();
        illegal();
        nextReady();
        idleForgets();
        endedStepCounts();
        noMemoryWhenRead();
        noMemoryWhenFetched();
        noMemoryWhenShared();
        noMemoryWhenTouchedByWrite();
        copies();
        plainOpsRan();
        childWithNumberZero();
        everyRegisterIsForked();
        everyWordOfAFrame();
        check.finish();
    }

    private static BranchingKernel with(int length, int... words) {
        BranchingKernel x = new BranchingKernel(12, 20);
        check.same("load(" + length + ")", Words.loadAll(x, length, words), 0);
        return x;
    }

    private static void arithmetic() {
        check.section("ops 0, 1, 2");
        BranchingKernel x = with(13, Words.set(1, 2097151), Words.set(2, -2097152), Words.add(1, 2, 5), Words.subtract(2, 1),
                Words.read(3, 0, 11), Words.add(3, 0, 1), Words.read(4, 0, 12), Words.subtract(4, 3), Words.subtract(4, 4),
                Words.add(1, 1, -3), 0, Integer.MAX_VALUE, 1);
        x.step();
        check.same("highest c", x.register(0, 1), 2097151);
        x.step();
        check.same("lowest c", x.register(0, 2), -2097152);
        x.step();
        check.same("a + b + c", x.register(0, 1), 4);
        x.step();
        check.same("a - b", x.register(0, 2), -2097156);
        x.steps(2);
        check.same("a sum that wraps", x.register(0, 3), Integer.MIN_VALUE);
        x.steps(2);
        check.same("a difference that wraps", x.register(0, 4), 1 - Integer.MIN_VALUE);
        x.step();
        check.same("a - a", x.register(0, 4), 0);
        x.step();
        check.same("a + a + c", x.register(0, 1), 5);
    }

    /** Op 0 lets b alone, and every part of the word is where the document says. */
    private static void partsOfAWord() {
        check.section("parts of a word");
        BranchingKernel x = with(4, Words.word(0, 7, 5, 3), Words.word(1, 6, 7, -1), Words.word(13, 5, 7, 99), Integer.MIN_VALUE);
        x.steps(3);
        check.same("register(0, 7)", x.register(0, 7), 3);
        check.same("register(0, 6)", x.register(0, 6), 2);
        check.same("register(0, 5)", x.register(0, 5), 0);
        x.step();
        check.same("c has the sign of w", x.register(0, 0), Integer.MIN_VALUE >> 10);
    }

    private static void readAndWrite() {
        check.section("ops 3, 4");
        BranchingKernel x = with(20, Words.set(1, 30), Words.set(2, 555), Words.write(2, 1, -11), Words.read(3, 1, -11),
                Words.set(4, -5), Words.read(5, 4, 5), Words.write(1, 0, 7), 0, Words.print(3));
        x.steps(4);
        check.same("peek(0, 19)", x.peek(0, 19), 555);
        check.same("register(0, 3)", x.register(0, 3), 555);
        x.steps(2);
        check.same("address 0", x.register(0, 5), Words.set(1, 30));
        x.step();
        check.same("a program may write itself", x.peek(0, 7), 30);
    }

    private static void outside() {
        check.section("outside");
        int[] addresses = {-1, 9, 63, 64, 1000, 2097151, -2097152};
        for (int address : addresses) {
            endsWith("read at " + address, BranchingKernel.OUTSIDE, with(9, Words.read(1, 0, address)));
            endsWith("write at " + address, BranchingKernel.OUTSIDE, with(9, Words.write(1, 0, address)));
        }
        int high = Integer.MAX_VALUE;
        int low = Integer.MIN_VALUE;
        endsAfterReading("read far above", with(9, Words.read(1, 0, 8), Words.read(2, 1, 2097151), 0, 0, 0, 0, 0, 0, high));
        endsAfterReading("write far below", with(9, Words.read(1, 0, 8), Words.write(2, 1, -2097152), 0, 0, 0, 0, 0, 0, low));
        BranchingKernel x = with(9, Words.read(1, 0, 8), Words.write(1, 0, 8));
        check.same("steps(2)", x.steps(2), 2);
        check.same("the last address is not outside", x.state(0), BranchingKernel.READY);
        BranchingKernel y = with(2, Words.set(1, 1), Words.set(1, 2));
        y.steps(2);
        endsWith("the counter at the break", BranchingKernel.OUTSIDE, y);
    }

    private static void endsAfterReading(String what, BranchingKernel x) {
        check.same(what + ": first", x.step(), BranchingKernel.RAN);
        endsWith(what, BranchingKernel.OUTSIDE, x);
    }

    private static void endsWith(String what, int code, BranchingKernel x) {
        check.same(what + ": step()", x.step(), BranchingKernel.ENDED);
        check.same(what + ": state(0)", x.state(0), BranchingKernel.ZOMBIE);
        check.same(what + ": code(0)", x.code(0), code);
        check.same(what + ": frames()", x.frames(), 0);
    }

    private static void jumps() {
        check.section("ops 5, 6");
        BranchingKernel x = with(12, Words.jumpIfNotZero(1, 9), Words.set(1, -1), Words.jumpIfNotZero(1, 5), 14, 14,
                Words.jumpIfLess(1, 2, 8), 14, 14, Words.jumpIfLess(2, 2, 0), Words.jumpIfLess(2, 1, 0), Words.jumpIfNotZero(1, -7));
        int[] counters = {1, 2, 5, 8, 9, 10, -7};
        for (int due : counters) {
            check.same("step()", x.step(), BranchingKernel.RAN);
            check.same("register(0, 8)", x.register(0, 8), due);
        }
        endsWith("a counter below 0", BranchingKernel.OUTSIDE, x);
        BranchingKernel y = with(2, Words.set(1, 1), Words.jumpIfNotZero(1, 2097151));
        y.steps(2);
        check.same("register(0, 8)", y.register(0, 8), 2097151);
        endsWith("a counter far above", BranchingKernel.OUTSIDE, y);
        BranchingKernel z = with(3, Words.set(1, -1), Words.read(2, 0, 2), Words.jumpIfLess(2, 1, 0));
        z.steps(2);
        z.step();
        check.same("no jump: it is not less", z.register(0, 8), 3);
    }

    private static void fork() {
        check.section("op 8");
        BranchingKernel x = with(17, Words.set(1, 5), Words.set(2, 6), Words.fork(1), Words.fork(2));
        x.load(1);
        x.steps(2);
        check.same("step()", x.step(), BranchingKernel.FORKED);
        check.same("the number of the child", x.register(0, 1), 2);
        check.same("state(2)", x.state(2), BranchingKernel.READY);
        check.same("parent(2)", x.parent(2), 0);
        check.same("a is 0 in the child", x.register(2, 1), 0);
        check.same("other registers are the same", x.register(2, 2), 6);
        check.same("counter", x.register(2, 8), 3);
        check.same("break", x.register(2, 9), 17);
        check.same("peek(2, 1)", x.peek(2, 1), Words.set(2, 6));
        check.same("frames()", x.frames(), 4);
        check.same("running()", x.running(), 0);
        x.kill(1);
        x.reap(1);
        x.step();
        check.same("the first free one", x.register(0, 2), 1);
        check.same("register(1, 1)", x.register(1, 1), 2);
        check.same("register(1, 2)", x.register(1, 2), 0);
    }

    private static void forkWithoutFree() {
        check.section("op 8 without a free process");
        BranchingKernel x = with(2, Words.fork(3), Words.fork(4));
        for (int p = 1; p < 7; p++) {
            x.load(1);
        }
        x.kill(6);
        check.same("step()", x.step(), BranchingKernel.FORKED);
        check.same("register(0, 3)", x.register(0, 3), 7);
        check.same("a zombie is not free", x.step(), BranchingKernel.RAN);
        check.same("register(0, 4)", x.register(0, 4), -1);
        check.same("sharing(0, 0)", x.sharing(0, 0), 2);
    }

    private static void breakMoves() {
        check.section("op 9");
        BranchingKernel x = with(10, Words.sbrk(1, 54), Words.set(2, 7), Words.write(2, 0, 63), Words.write(2, 0, 16),
                Words.sbrk(3, -47), Words.sbrk(4, 47), Words.sbrk(5, 0), Words.sbrk(6, -48), 0, 99);
        x.step();
        check.same("the old break", x.register(0, 1), 10);
        check.same("register(0, 9)", x.register(0, 9), 64);
        check.same("frames()", x.frames(), 2);
        x.steps(3);
        check.same("frames()", x.frames(), 4);
        x.step();
        check.same("the old break", x.register(0, 3), 64);
        check.same("register(0, 9)", x.register(0, 9), 17);
        check.same("the page with an address below the break stays", x.sharing(0, 2), 1);
        check.same("the page above is released", x.sharing(0, 7), 0);
        check.same("frames()", x.frames(), 3);
        check.same("peek(0, 16)", x.peek(0, 16), 7);
        x.step();
        check.same("register(0, 9)", x.register(0, 9), 64);
        check.same("a released page has lost its words", x.peek(0, 63), 0);
        check.same("frames()", x.frames(), 3);
        x.step();
        check.same("by nothing", x.register(0, 5), 64);
        check.same("frames()", x.frames(), 3);
        x.step();
        check.same("a break at the beginning of a page", x.sharing(0, 2), 0);
        check.same("sharing(0, 1)", x.sharing(0, 1), 1);
        check.same("frames()", x.frames(), 2);
        wordsBehindTheBreak();
        breakToNothing();
    }

    private static void wordsBehindTheBreak() {
        BranchingKernel x = with(16, Words.sbrk(1, -5), Words.sbrk(1, 5), Words.sbrk(1, 0), 0, 0, 0, 0, 0,
                108, 109, 110, 111, 112, 113, 114, 115);
        x.steps(2);
        for (int i = 8; i < 16; i++) {
            check.same("peek(0, " + i + ")", x.peek(0, i), i < 11 ? 100 + i : 0);
        }
    }

    private static void breakToNothing() {
        BranchingKernel x = with(16, Words.sbrk(1, -16));
        check.same("step()", x.step(), BranchingKernel.RAN);
        check.same("register(0, 9)", x.register(0, 9), 0);
        check.same("register(0, 1)", x.register(0, 1), 16);
        check.same("frames()", x.frames(), 0);
        endsWith("nothing to fetch", BranchingKernel.OUTSIDE, x);
    }

    private static void breakRefused() {
        check.section("op 9 refused");
        BranchingKernel x = with(10, Words.sbrk(1, 55), Words.sbrk(2, -11), Words.sbrk(3, 2097151), Words.sbrk(4, -2097152));
        check.same("steps(4)", x.steps(4), 4);
        for (int r = 1; r <= 4; r++) {
            check.same("register(0, " + r + ")", x.register(0, r), -1);
        }
        check.same("register(0, 9)", x.register(0, 9), 10);
        check.same("frames()", x.frames(), 2);
        check.same("state(0)", x.state(0), BranchingKernel.READY);
    }

    /** Zeros are written even where all words are 0 already: the page leaves its class. */
    private static void breakInASharedPage() {
        check.section("op 9 in a shared page");
        BranchingKernel x = with(16, Words.fork(1), Words.sbrk(2, -3), Words.sbrk(2, 3), 0, 0, 0, 0, 0, 8, 9, 10, 11, 12, 0, 0, 0);
        x.step();
        check.same("sharing(0, 1)", x.sharing(0, 1), 2);
        check.same("step()", x.step(), BranchingKernel.RAN);
        check.same("sharing(0, 1)", x.sharing(0, 1), 1);
        check.same("sharing(1, 1)", x.sharing(1, 1), 1);
        check.same("sharing(0, 0)", x.sharing(0, 0), 2);
        check.same("frames()", x.frames(), 3);
        check.same("peek(0, 12)", x.peek(0, 12), 12);
        BranchingKernel y = with(16, Words.fork(1), Words.sbrk(2, 3), Words.sbrk(2, -3));
        y.steps(2);
        check.same("a break that grows writes nothing", y.sharing(0, 1), 2);
        y.step();
        check.same("a break at the end of a page writes nothing", y.sharing(0, 1), 2);
        BranchingKernel z = with(9, Words.sbrk(1, 20), Words.sbrk(2, -1), Words.sbrk(2, -1));
        z.steps(3);
        check.same("nothing is written to an untouched page", z.frames(), 2);
        check.same("sharing(0, 3)", z.sharing(0, 3), 0);
    }

    private static void breakInASharedPageWithoutMemory() {
        check.section("op 9 without memory");
        BranchingKernel x = new BranchingKernel(2, 20);
        Words.loadAll(x, 16, Words.fork(1), Words.sbrk(2, -1), Words.print(2), 0, 0, 0, 0, 0, 8, 9, 10, 11, 12, 13, 14, 15);
        x.step();
        check.same("step()", x.step(), BranchingKernel.ENDED);
        check.same("code(0)", x.code(0), BranchingKernel.NO_MEMORY);
        check.same("peek(1, 15)", x.peek(1, 15), 15);
        check.same("sharing(1, 1)", x.sharing(1, 1), 1);
        check.same("frames()", x.frames(), 2);
    }

    /** The pages above the break are released before zeros are written: their frame serves for the copy. */
    private static void breakReleasesFirst() {
        check.section("op 9 releases first");
        BranchingKernel x = new BranchingKernel(3, 20);
        Words.loadAll(x, 16, Words.fork(1), Words.sbrk(2, 8), Words.write(2, 0, 23), Words.sbrk(3, -12), Words.print(3),
                0, 0, 0, 8, 9, 10, 11, 12, 13, 14, 15);
        x.steps(3);
        check.same("frames()", x.frames(), 3);
        check.same("step()", x.step(), BranchingKernel.RAN);
        check.same("frames()", x.frames(), 3);
        check.same("sharing(0, 1)", x.sharing(0, 1), 1);
        check.same("peek(0, 11)", x.peek(0, 11), 11);
        check.same("peek(1, 15)", x.peek(1, 15), 15);
    }

    private static void exitCodes() {
        check.section("op 10");
        BranchingKernel x = with(8, Words.set(3, 42), Words.exit(3));
        x.step();
        endsWith("exit", 42, x);
    }

    private static void awaitTakesTheFirstZombie() {
        check.section("op 11");
        BranchingKernel x = with(8, Words.fork(1), Words.fork(2), Words.fork(3), Words.await(4), Words.await(5), Words.await(6),
                Words.await(7));
        x.steps(3);
        x.kill(3);
        x.kill(2);
        check.same("step()", x.step(), BranchingKernel.RAN);
        check.same("register(0, 4)", x.register(0, 4), BranchingKernel.KILLED);
        check.same("the first by number", x.state(2), BranchingKernel.FREE);
        check.same("the other", x.state(3), BranchingKernel.ZOMBIE);
        check.same("step()", x.step(), BranchingKernel.RAN);
        check.same("state(3)", x.state(3), BranchingKernel.FREE);
        check.same("the last one is not a zombie", x.step(), BranchingKernel.SLEPT);
        check.same("register(0, 6)", x.register(0, 6), 0);
        x.kill(1);
        check.same("state(0)", x.state(0), BranchingKernel.READY);
        check.same("step()", x.step(), BranchingKernel.RAN);
        check.same("register(0, 6)", x.register(0, 6), BranchingKernel.KILLED);
        check.same("step()", x.step(), BranchingKernel.RAN);
        check.same("no children", x.register(0, 7), -1);
    }

    private static void awaitWithoutChildren() {
        check.section("op 11 without children");
        BranchingKernel x = with(8, Words.await(4), Words.print(4));
        x.load(1);
        x.kill(1);
        check.same("step()", x.step(), BranchingKernel.RAN);
        check.same("register(0, 4)", x.register(0, 4), -1);
        check.same("register(0, 8)", x.register(0, 8), 1);
        check.same("another's zombie stays", x.state(1), BranchingKernel.ZOMBIE);
    }

    /** A grandchild's end wakes its own parent alone. */
    private static void awaitSleeps() {
        check.section("op 11 sleeps");
        BranchingKernel x = with(8, Words.fork(1), Words.jumpIfNotZero(1, 3), Words.fork(2), Words.await(4), Words.exit(4));
        check.same("steps(3)", x.steps(3), 3);
        check.same("state(0)", x.state(0), BranchingKernel.WAITING);
        check.same("register(0, 8)", x.register(0, 8), 3);
        check.same("steps(2)", x.steps(2), 2);
        check.same("parent(2)", x.parent(2), 1);
        x.kill(2);
        check.same("the grandparent sleeps on", x.state(0), BranchingKernel.WAITING);
        check.same("steps(1)", x.steps(1), 1);
        check.same("register(1, 4)", x.register(1, 4), BranchingKernel.KILLED);
        check.same("steps(1)", x.steps(1), 1);
        check.same("state(1)", x.state(1), BranchingKernel.ZOMBIE);
        check.same("state(0)", x.state(0), BranchingKernel.READY);
        check.same("steps(50)", x.steps(50), 2);
        check.same("code(0)", x.code(0), BranchingKernel.KILLED);
    }

    private static void endOfARow() {
        check.section("op 12");
        BranchingKernel x = with(4, Words.endRow(), Words.set(1, 1), Words.set(1, 2), Words.set(1, 3));
        x.load(4);
        check.same("step()", x.step(), BranchingKernel.RAN);
        check.same("register(0, 8)", x.register(0, 8), 1);
        check.same("running()", x.running(), -1);
        x.step();
        check.same("register(1, 8)", x.register(1, 8), 1);
        check.same("running()", x.running(), -1);
        x.step();
        check.same("running()", x.running(), 0);
        check.same("register(0, 1)", x.register(0, 1), 1);
        BranchingKernel y = with(3, Words.endRow(), Words.set(1, 1), Words.set(1, 2));
        y.steps(2);
        check.same("itself, when no other is ready", y.register(0, 1), 1);
        check.same("running()", y.running(), 0);
    }

    private static void ownNumber() {
        check.section("op 13");
        BranchingKernel x = new BranchingKernel(12, 1);
        Words.loadAll(x, 1, Words.exit(0));
        for (int p = 1; p < 8; p++) {
            Words.loadAll(x, 1, Words.self(p));
        }
        x.steps(8);
        for (int p = 1; p < 8; p++) {
            check.same("register(" + p + ", " + p + ")", x.register(p, p), p);
        }
    }

    private static void illegal() {
        check.section("ops 14, 15");
        endsWith("op 14", BranchingKernel.ILLEGAL, with(1, 14));
        endsWith("op 15", BranchingKernel.ILLEGAL, with(1, 15));
        endsWith("all bits", BranchingKernel.ILLEGAL, with(1, -1));
    }

    private static void nextReady() {
        check.section("the next ready process");
        BranchingKernel x = new BranchingKernel(12, 2);
        for (int p = 0; p < 8; p++) {
            Words.loadAll(x, 4, Words.self(1), Words.print(1), Words.self(1), Words.print(1));
        }
        x.kill(0);
        x.kill(3);
        int[] order = {1, 2, 4, 5, 6, 7, 1, 2};
        for (int due : order) {
            x.steps(2);
            check.same("who printed", x.print(0), due);
        }
        check.same("running()", x.running(), -1);
        x.reap(0);
        Words.loadAll(x, 4, Words.self(1), Words.print(1));
        check.same("steps(8)", x.steps(8), 8);
        check.same("who printed", x.print(0), 7);
        x.steps(2);
        check.same("0 is behind 7", x.print(0), 0);
    }

    private static void idleForgets() {
        check.section("idle");
        BranchingKernel x = with(1, Words.exit(0));
        x.load(1);
        x.steps(2);
        x.reap(0);
        check.same("step()", x.step(), BranchingKernel.IDLE);
        x.reap(1);
        Words.loadAll(x, 2, Words.self(1), Words.print(1));
        x.load(2);
        x.load(2);
        x.steps(2);
        check.same("from 0 on", x.print(0), 0);
        BranchingKernel y = with(1, Words.exit(0));
        y.load(1);
        y.steps(1);
        y.reap(0);
        Words.loadAll(y, 2, Words.self(1), Words.print(1));
        y.steps(1);
        check.same("0 has the number that runs", y.running(), 0);
    }

    /** A step with which a process ends is one of its number's row too. */
    private static void endedStepCounts() {
        check.section("a row with an end in it");
        BranchingKernel x = new BranchingKernel(12, 2);
        Words.loadAll(x, 1, Words.exit(0));
        Words.loadAll(x, 3, Words.set(1, 1), Words.set(1, 2), Words.set(1, 3));
        x.step();
        x.reap(0);
        x.load(3);
        check.same("running()", x.running(), 0);
        x.step();
        check.same("running()", x.running(), -1);
        x.step();
        check.same("running()", x.running(), 1);
    }

    private static void noMemoryWhenRead() {
        check.section("no memory, read");
        BranchingKernel x = new BranchingKernel(2, 20);
        Words.loadAll(x, 9, Words.sbrk(1, 20), Words.read(2, 0, 28));
        check.same("step()", x.step(), BranchingKernel.RAN);
        check.same("peek needs no memory", x.peek(0, 28), 0);
        endsWith("read", BranchingKernel.NO_MEMORY, x);
    }

    private static void noMemoryWhenFetched() {
        check.section("no memory, fetched");
        BranchingKernel x = new BranchingKernel(2, 20);
        Words.loadAll(x, 9, Words.sbrk(1, 20), Words.jumpIfNotZero(1, 20));
        check.same("steps(2)", x.steps(2), 2);
        endsWith("fetch", BranchingKernel.NO_MEMORY, x);
        BranchingKernel y = new BranchingKernel(3, 20);
        Words.loadAll(y, 9, Words.sbrk(1, 20), Words.jumpIfNotZero(1, 20));
        y.steps(2);
        check.same("a fetch touches", y.step(), BranchingKernel.RAN);
        check.same("frames()", y.frames(), 3);
        check.same("sharing(0, 2)", y.sharing(0, 2), 1);
    }

    private static void noMemoryWhenShared() {
        check.section("no memory, shared");
        BranchingKernel x = new BranchingKernel(2, 20);
        Words.loadAll(x, 16, Words.fork(1), Words.write(1, 0, 15), Words.print(1));
        x.step();
        check.same("write", x.step(), BranchingKernel.ENDED);
        check.same("code(0)", x.code(0), BranchingKernel.NO_MEMORY);
        check.same("frames()", x.frames(), 2);
        check.same("peek(1, 15)", x.peek(1, 15), 0);
        check.same("sharing(1, 1)", x.sharing(1, 1), 1);
        check.same("the other may write: it is the only one now", x.step(), BranchingKernel.RAN);
        check.same("step()", x.step(), BranchingKernel.PRINTED);
    }

    private static void noMemoryWhenTouchedByWrite() {
        check.section("no memory, touched by a write");
        BranchingKernel x = new BranchingKernel(3, 20);
        Words.loadAll(x, 9, Words.sbrk(1, 55), Words.write(1, 0, 40), Words.write(1, 0, 50));
        check.same("steps(2)", x.steps(2), 2);
        check.same("peek(0, 40)", x.peek(0, 40), 9);
        check.same("peek(0, 41)", x.peek(0, 41), 0);
        endsWith("write", BranchingKernel.NO_MEMORY, x);
    }

    private static void copies() {
        check.section("copies");
        BranchingKernel x = with(16, Words.fork(1), Words.add(1, 0, 100), Words.write(1, 0, 8), Words.write(1, 0, 9),
                Words.read(2, 0, 10), Words.exit(2), 0, 0, 50, 51, 52, 53, 54, 55, 56, 57);
        x.steps(3);
        check.same("frames()", x.frames(), 3);
        check.same("peek(0, 8)", x.peek(0, 8), 101);
        check.same("peek(1, 8)", x.peek(1, 8), 50);
        x.step();
        check.same("a second write copies nothing", x.frames(), 3);
        for (int i = 10; i < 16; i++) {
            check.same("peek(0, " + i + ")", x.peek(0, i), 42 + i);
            check.same("peek(1, " + i + ")", x.peek(1, i), 42 + i);
        }
        x.step();
        check.same("register(0, 2)", x.register(0, 2), 52);
        check.same("a read lets a shared page alone", x.sharing(0, 0), 2);
        x.step();
        x.steps(2);
        check.same("the last one of a class writes without a copy", x.frames(), 2);
        check.same("peek(1, 8)", x.peek(1, 8), 100);
    }

    private static void plainOpsRan() {
        check.section("ops that ran");
        BranchingKernel x = with(16, Words.set(1, 1), Words.add(1, 1, 1), Words.subtract(2, 1), Words.read(3, 0, 9),
                Words.write(3, 0, 9), Words.jumpIfNotZero(3, 0), Words.jumpIfLess(1, 2, 0), Words.sbrk(4, 1), Words.sbrk(4, 99),
                Words.await(5), Words.endRow(), Words.self(6));
        for (int k = 0; k < 12; k++) {
            check.same("step " + k, x.step(), BranchingKernel.RAN);
        }
    }

    /** 0 is a child like any other. */
    private static void childWithNumberZero() {
        check.section("child 0");
        BranchingKernel x = with(3, Words.fork(1), Words.await(2), Words.fork(1));
        x.load(3);
        x.kill(0);
        x.reap(0);
        x.step();
        check.same("parent(0)", x.parent(0), 1);
        check.same("a living child", x.step(), BranchingKernel.SLEPT);
        x.kill(0);
        check.same("state(1)", x.state(1), BranchingKernel.READY);
        check.same("a zombie child", x.step(), BranchingKernel.RAN);
        check.same("register(1, 2)", x.register(1, 2), BranchingKernel.KILLED);
        check.same("state(0)", x.state(0), BranchingKernel.FREE);
        x.step();
        check.same("parent(0)", x.parent(0), 1);
        x.kill(1);
        check.same("parent(0)", x.parent(0), -1);
    }

    private static void everyRegisterIsForked() {
        check.section("registers of a child");
        BranchingKernel x = with(10, Words.set(0, 10), Words.set(1, 11), Words.set(2, 12), Words.set(3, 13), Words.set(4, 14),
                Words.set(5, 15), Words.set(6, 16), Words.set(7, 17), Words.fork(4));
        x.steps(9);
        for (int r = 0; r < 8; r++) {
            check.same("register(1, " + r + ")", x.register(1, r), r == 4 ? 0 : 10 + r);
        }
        x.kill(0);
        x.kill(1);
        x.reap(0);
        x.load(1);
        for (int r = 0; r < 8; r++) {
            check.same("register(0, " + r + ")", x.register(0, r), 0);
        }
    }

    /** A copy has all eight words, a frame that served before has none of its old ones, the last page has an end. */
    private static void everyWordOfAFrame() {
        check.section("every word of a frame");
        BranchingKernel x = with(16, Words.fork(1), Words.write(1, 0, 12), Words.sbrk(2, -8), Words.sbrk(2, 8), Words.read(3, 0, 9),
                Words.sbrk(2, 48), Words.write(2, 0, 62), Words.sbrk(2, -1), 50, 51, 52, 53, 54, 55, 56, 57);
        x.steps(2);
        for (int i = 8; i < 16; i++) {
            check.same("copied: peek(0, " + i + ")", x.peek(0, i), i == 12 ? 1 : 42 + i);
        }
        x.steps(3);
        check.same("sharing(0, 1)", x.sharing(0, 1), 1);
        for (int i = 8; i < 16; i++) {
            check.same("touched anew: peek(0, " + i + ")", x.peek(0, i), 0);
        }
        check.same("steps(3)", x.steps(3), 3);
        check.same("register(0, 9)", x.register(0, 9), 63);
        check.same("peek(0, 62)", x.peek(0, 62), 16);
    }
}
