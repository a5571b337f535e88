/** A section for each promise: ordinary inputs, the edges that the document names, wrong inputs. */
public final class PromiseTest {
    private static final int LOWEST = Integer.MIN_VALUE;
    private static final int HIGHEST = Integer.MAX_VALUE;
    private static final Check check = new Check();

    public static void main(String[] args) {
        newObject();
        stage();
        load();
        loadRefused();
        step();
        steps();
        kill();
        reap();
        state();
        parent();
        code();
        running();
        register();
        peek();
        sharing();
        frames();
        printed();
        print();
        check.finish();
    }

    private static void newObject() {
        check.section("promise 1");
        framesOf(2, 2);
        framesOf(32, 32);
        framesOf(7, 7);
        framesOf(1, 12);
        framesOf(33, 12);
        framesOf(0, 12);
        framesOf(-5, 12);
        framesOf(LOWEST, 12);
        framesOf(HIGHEST, 12);
        quantumOf(1, 1);
        quantumOf(20, 20);
        quantumOf(0, 3);
        quantumOf(21, 3);
        quantumOf(-1, 3);
        quantumOf(LOWEST, 3);
        quantumOf(HIGHEST, 3);
        BranchingKernel x = new BranchingKernel(4, 4);
        for (int p = 0; p < 8; p++) {
            check.same("state(" + p + ")", x.state(p), BranchingKernel.FREE);
            check.same("parent(" + p + ")", x.parent(p), -1);
        }
        check.same("frames()", x.frames(), 0);
        check.same("printed()", x.printed(), 0);
        check.same("running()", x.running(), -1);
        check.same("load(3)", x.load(3), 0);
        check.same("peek(0, 0) of the image at first", x.peek(0, 0), 0);
    }

    private static void framesOf(int told, int due) {
        BranchingKernel x = new BranchingKernel(told, 3);
        int got = 0;
        while (got < 40 && x.load(64) >= 0) {
            got += 8;
        }
        while (got < 40 && x.load(8) >= 0) {
            got++;
        }
        check.same("frames of new(" + told + ", 3)", got, due);
        check.same("frames() of new(" + told + ", 3)", x.frames(), due);
    }

    private static void quantumOf(int told, int due) {
        BranchingKernel x = new BranchingKernel(4, told);
        Words.loadAll(x, 3, Words.set(1, 1), Words.add(2, 1, 0), Words.jumpIfNotZero(1, 1));
        check.same("load(3)", x.load(3), 1);
        int got = 0;
        do {
            x.step();
            got++;
        } while (got < 30 && x.running() == 0);
        check.same("row of new(4, " + told + ")", got, due);
    }

    private static void stage() {
        check.section("promise 2");
        BranchingKernel x = new BranchingKernel(32, 3);
        check.same("stage(-1, 7)", x.stage(-1, 7), false);
        check.same("stage(64, 7)", x.stage(64, 7), false);
        check.same("stage(LOWEST, 7)", x.stage(LOWEST, 7), false);
        check.same("stage(HIGHEST, 7)", x.stage(HIGHEST, 7), false);
        x.load(64);
        for (int i = 0; i < 64; i++) {
            check.same("peek(0, " + i + ")", x.peek(0, i), 0);
        }
        for (int i = 0; i < 64; i++) {
            check.same("stage(" + i + ", ..)", x.stage(i, -1000 + i), true);
        }
        check.same("stage(5, LOWEST)", x.stage(5, LOWEST), true);
        check.same("stage(6, HIGHEST)", x.stage(6, HIGHEST), true);
        check.same("a loaded process stays as it is", x.peek(0, 3), 0);
        x.load(64);
        for (int i = 0; i < 64; i++) {
            int due = i == 5 ? LOWEST : i == 6 ? HIGHEST : -1000 + i;
            check.same("peek(1, " + i + ")", x.peek(1, i), due);
        }
    }

    private static void load() {
        check.section("promise 3");
        BranchingKernel x = new BranchingKernel(8, 3);
        for (int i = 0; i < 64; i++) {
            x.stage(i, 1000 + i);
        }
        check.same("load(9)", x.load(9), 0);
        check.same("state(0)", x.state(0), BranchingKernel.READY);
        check.same("parent(0)", x.parent(0), -1);
        for (int r = 0; r <= 8; r++) {
            check.same("register(0, " + r + ")", x.register(0, r), 0);
        }
        check.same("register(0, 9)", x.register(0, 9), 9);
        check.same("frames()", x.frames(), 2);
        check.same("peek(0, 0)", x.peek(0, 0), 1000);
        check.same("peek(0, 8)", x.peek(0, 8), 1008);
        check.same("peek(0, 9)", x.peek(0, 9), 0);
        check.same("sharing(0, 0)", x.sharing(0, 0), 1);
        check.same("sharing(0, 1)", x.sharing(0, 1), 1);
        check.same("sharing(0, 2)", x.sharing(0, 2), 0);
        check.same("load(1)", x.load(1), 1);
        check.same("load(8)", x.load(8), 2);
        check.same("frames()", x.frames(), 4);
        x.kill(0);
        check.same("a zombie is not free", x.load(1), 3);
        x.reap(0);
        check.same("the first free one", x.load(8), 0);
        freshAfterUse();
        behindTheBreak();
    }

    /** A number that was used before has nothing left of its earlier process. */
    private static void freshAfterUse() {
        BranchingKernel x = new BranchingKernel(2, 20);
        Words.loadAll(x, 16, Words.set(3, 77), Words.write(3, 0, 15), Words.exit(3));
        x.steps(3);
        check.same("reap(0)", x.reap(0), 77);
        check.same("load(10)", x.load(10), 0);
        check.same("register(0, 3)", x.register(0, 3), 0);
        check.same("register(0, 8)", x.register(0, 8), 0);
        check.same("register(0, 9)", x.register(0, 9), 10);
        check.same("code(0)", x.code(0), 0);
    }

    /** Words behind the break are not of the image, nor of what a frame held before. */
    private static void behindTheBreak() {
        BranchingKernel x = new BranchingKernel(2, 20);
        for (int i = 0; i < 64; i++) {
            x.stage(i, 5555);
        }
        check.same("load(16)", x.load(16), 0);
        x.kill(0);
        x.reap(0);
        check.same("load(9)", Words.loadAll(x, 9, Words.sbrk(1, 7), Words.read(2, 0, 9), Words.print(2)), 0);
        check.same("steps(3)", x.steps(3), 3);
        check.same("printed()", x.printed(), 1);
        check.same("print(0)", x.print(0), 0);
        check.same("peek(0, 15)", x.peek(0, 15), 0);
        check.same("peek(0, 8)", x.peek(0, 8), 5555);
    }

    private static void loadRefused() {
        check.section("promise 3, refused");
        BranchingKernel x = new BranchingKernel(8, 3);
        int[] lengths = {0, 65, -1, LOWEST, HIGHEST};
        for (int length : lengths) {
            check.same("load(" + length + ")", x.load(length), BranchingKernel.BAD_LENGTH);
        }
        check.same("state(0)", x.state(0), BranchingKernel.FREE);
        check.same("load(57)", x.load(57), 0);
        check.same("load(1) with no frame left", x.load(1), BranchingKernel.NO_MEMORY);
        check.same("state(1)", x.state(1), BranchingKernel.FREE);
        check.same("frames()", x.frames(), 8);
        BranchingKernel y = new BranchingKernel(9, 3);
        y.load(56);
        check.same("load(17) with two frames left", y.load(17), BranchingKernel.NO_MEMORY);
        check.same("frames()", y.frames(), 7);
        check.same("load(16)", y.load(16), 1);
        BranchingKernel z = new BranchingKernel(8, 3);
        for (int p = 0; p < 8; p++) {
            check.same("load(1)", z.load(1), p);
        }
        check.same("no process comes before no memory", z.load(1), BranchingKernel.NO_PROCESS);
        check.same("bad length comes before no process", z.load(0), BranchingKernel.BAD_LENGTH);
        check.same("bad length comes before no process", z.load(65), BranchingKernel.BAD_LENGTH);
    }

    private static void step() {
        check.section("promise 4");
        BranchingKernel x = new BranchingKernel(12, 20);
        check.same("step()", x.step(), BranchingKernel.IDLE);
        Words.loadAll(x, 8, Words.set(1, 4), Words.print(1), Words.fork(2), Words.jumpIfNotZero(2, 6),
                Words.exit(1), 0, Words.await(3), 14);
        check.same("set", x.step(), BranchingKernel.RAN);
        check.same("print", x.step(), BranchingKernel.PRINTED);
        check.same("fork", x.step(), BranchingKernel.FORKED);
        check.same("jump", x.step(), BranchingKernel.RAN);
        check.same("wait", x.step(), BranchingKernel.SLEPT);
        check.same("state(0)", x.state(0), BranchingKernel.WAITING);
        check.same("child: no jump", x.step(), BranchingKernel.RAN);
        check.same("child: exit", x.step(), BranchingKernel.ENDED);
        check.same("wait again", x.step(), BranchingKernel.RAN);
        check.same("register(0, 3)", x.register(0, 3), 4);
        check.same("illegal", x.step(), BranchingKernel.ENDED);
        check.same("none is ready", x.step(), BranchingKernel.IDLE);
        check.same("code(0)", x.code(0), BranchingKernel.ILLEGAL);
    }

    private static void steps() {
        check.section("promise 5");
        BranchingKernel x = new BranchingKernel(12, 3);
        check.same("steps(50)", x.steps(50), 0);
        Words.loadAll(x, 3, Words.set(1, 1), Words.add(2, 1, 0), Words.jumpIfNotZero(1, 1));
        int[] refused = {-1, 51, LOWEST, HIGHEST};
        for (int n : refused) {
            check.same("steps(" + n + ")", x.steps(n), -1);
        }
        check.same("register(0, 8)", x.register(0, 8), 0);
        check.same("steps(0)", x.steps(0), 0);
        check.same("register(0, 8)", x.register(0, 8), 0);
        check.same("steps(50)", x.steps(50), 50);
        check.same("register(0, 2)", x.register(0, 2), 25);
        check.same("steps(1)", x.steps(1), 1);
        check.same("steps(2)", x.steps(2), 2);
        check.same("register(0, 2)", x.register(0, 2), 26);
        idleStepOfSteps();
    }

    /** The step that is idle is taken too: none runs any more then, and the search begins at 0 again. */
    private static void idleStepOfSteps() {
        int[] countOfSteps = {1, 2};
        for (int n : countOfSteps) {
            BranchingKernel x = new BranchingKernel(12, 3);
            Words.loadAll(x, 1, Words.exit(0));
            x.load(1);
            check.same("steps(1)", x.steps(1), 1);
            check.same("steps(" + n + ")", x.steps(n), 1);
            x.reap(0);
            x.reap(1);
            for (int p = 0; p < 3; p++) {
                Words.loadAll(x, 2, Words.self(1), Words.print(1));
            }
            x.steps(2);
            check.same("who ran first after steps(" + n + ")", x.print(0), n == 1 ? 1 : 0);
        }
    }

    private static void kill() {
        check.section("promise 6");
        BranchingKernel x = new BranchingKernel(12, 1);
        int[] noNumbers = {-1, 8, LOWEST, HIGHEST};
        for (int p : noNumbers) {
            check.same("kill(" + p + ")", x.kill(p), false);
        }
        check.same("kill of a free one", x.kill(0), false);
        check.same("state(0)", x.state(0), BranchingKernel.FREE);
        Words.loadAll(x, 24, Words.fork(1), Words.fork(2), Words.await(3), Words.jumpIfNotZero(2, 2));
        x.step();
        x.step();
        x.kill(1);
        x.kill(2);
        check.same("kill(0)", x.kill(0), true);
        check.same("state(0)", x.state(0), BranchingKernel.ZOMBIE);
        check.same("code(0)", x.code(0), BranchingKernel.KILLED);
        check.same("register(0, 9)", x.register(0, 9), 0);
        check.same("frames()", x.frames(), 0);
        check.same("kill of a zombie", x.kill(0), false);
        check.same("code(0)", x.code(0), BranchingKernel.KILLED);
        killInAFamily();
    }

    private static void killInAFamily() {
        BranchingKernel x = new BranchingKernel(12, 20);
        // 0 forks 1, which forks 2; then 1 waits for 2, and 0 for 1.
        Words.loadAll(x, 9, Words.fork(1), Words.jumpIfNotZero(1, 5), Words.fork(1), Words.jumpIfNotZero(1, 5),
                Words.jumpIfLess(0, 7, 0), Words.await(2), Words.print(2), Words.exit(2));
        x.steps(7);
        check.same("state(0)", x.state(0), BranchingKernel.WAITING);
        check.same("state(1)", x.state(1), BranchingKernel.WAITING);
        check.same("state(2)", x.state(2), BranchingKernel.READY);
        check.same("sharing(0, 0)", x.sharing(0, 0), 3);
        check.same("kill of a waiting one", x.kill(1), true);
        check.same("its parent", x.state(0), BranchingKernel.READY);
        check.same("its child's parent", x.parent(2), -1);
        check.same("its own parent", x.parent(1), 0);
        check.same("sharing(0, 0)", x.sharing(0, 0), 2);
        check.same("kill(2)", x.kill(2), true);
        check.same("a zombie with a parent", x.reap(1), -1);
        check.same("reap(2)", x.reap(2), BranchingKernel.KILLED);
        check.same("steps(2)", x.steps(2), 2);
        check.same("print(0)", x.print(0), BranchingKernel.KILLED);
        check.same("state(1)", x.state(1), BranchingKernel.FREE);
        check.same("parent(1)", x.parent(1), -1);
    }

    private static void reap() {
        check.section("promise 7");
        BranchingKernel x = new BranchingKernel(12, 20);
        int[] noNumbers = {-1, 8, LOWEST, HIGHEST};
        for (int p : noNumbers) {
            check.same("reap(" + p + ")", x.reap(p), -1);
        }
        check.same("reap of a free one", x.reap(0), -1);
        Words.loadAll(x, 8, Words.fork(1), Words.jumpIfNotZero(1, 4), Words.set(2, 9), Words.exit(2),
                Words.await(3), Words.fork(1), Words.jumpIfNotZero(1, 7), Words.add(1, 0, 0));
        check.same("reap of a ready one", x.reap(0), -1);
        check.same("state(0)", x.state(0), BranchingKernel.READY);
        x.steps(3);
        check.same("state(0)", x.state(0), BranchingKernel.WAITING);
        check.same("reap of a waiting one", x.reap(0), -1);
        check.same("state(0)", x.state(0), BranchingKernel.WAITING);
        x.steps(3);
        check.same("state(1)", x.state(1), BranchingKernel.ZOMBIE);
        check.same("reap of a child", x.reap(1), -1);
        check.same("state(1)", x.state(1), BranchingKernel.ZOMBIE);
        x.kill(0);
        check.same("reap of the child, when its parent has ended", x.reap(1), 9);
        check.same("state(1)", x.state(1), BranchingKernel.FREE);
        check.same("code(1)", x.code(1), 0);
        check.same("reap(0)", x.reap(0), BranchingKernel.KILLED);
        check.same("reap(0) again", x.reap(0), -1);
        codeThatIsNone();
    }

    private static void codeThatIsNone() {
        BranchingKernel x = new BranchingKernel(12, 20);
        Words.loadAll(x, 2, Words.set(1, -1), Words.exit(1));
        x.steps(2);
        check.same("code(0)", x.code(0), -1);
        check.same("reap(0)", x.reap(0), -1);
        check.same("state(0)", x.state(0), BranchingKernel.FREE);
    }

    private static void state() {
        check.section("promise 8");
        BranchingKernel x = new BranchingKernel(12, 20);
        int[] noNumbers = {-1, 8, LOWEST, HIGHEST};
        for (int p : noNumbers) {
            check.same("state(" + p + ")", x.state(p), -1);
        }
        check.same("state(7)", x.state(7), BranchingKernel.FREE);
        for (int p = 0; p < 8; p++) {
            Words.loadAll(x, 3, Words.fork(1), Words.await(2), Words.exit(1));
        }
        check.same("state(7)", x.state(7), BranchingKernel.READY);
        x.kill(7);
        check.same("state(7)", x.state(7), BranchingKernel.ZOMBIE);
        x.reap(7);
        check.same("state(7)", x.state(7), BranchingKernel.FREE);
        x.steps(2);
        check.same("state(0)", x.state(0), BranchingKernel.WAITING);
        check.same("state(7)", x.state(7), BranchingKernel.READY);
    }

    private static void parent() {
        check.section("promise 9");
        BranchingKernel x = new BranchingKernel(12, 20);
        int[] noNumbers = {-1, 8, LOWEST, HIGHEST};
        for (int p : noNumbers) {
            check.same("parent(" + p + ")", x.parent(p), -1);
        }
        check.same("parent of a free one", x.parent(1), -1);
        x.load(1);
        Words.loadAll(x, 3, Words.fork(1), Words.await(2), Words.exit(2));
        x.kill(0);
        x.step();
        check.same("parent(1)", x.parent(1), -1);
        check.same("parent(2)", x.parent(2), 1);
        x.kill(2);
        check.same("parent of a zombie", x.parent(2), 1);
        x.step();
        check.same("state(2)", x.state(2), BranchingKernel.FREE);
        check.same("parent(2)", x.parent(2), -1);
        numberUsedAgain();
    }

    /** A new process with the number of an ended parent is not the parent of that one's children. */
    private static void numberUsedAgain() {
        BranchingKernel x = new BranchingKernel(12, 20);
        Words.loadAll(x, 2, Words.fork(1), Words.await(2));
        x.step();
        check.same("parent(1)", x.parent(1), 0);
        x.kill(0);
        check.same("parent(1)", x.parent(1), -1);
        x.reap(0);
        Words.loadAll(x, 2, Words.await(2), Words.print(2));
        check.same("parent(1)", x.parent(1), -1);
        x.kill(1);
        x.steps(2);
        check.same("print(0)", x.print(0), -1);
        check.same("reap(1)", x.reap(1), BranchingKernel.KILLED);
    }

    private static void code() {
        check.section("promise 10");
        BranchingKernel x = new BranchingKernel(12, 20);
        int[] noNumbers = {-1, 8, LOWEST, HIGHEST};
        for (int p : noNumbers) {
            check.same("code(" + p + ")", x.code(p), 0);
        }
        check.same("code of a free one", x.code(0), 0);
        Words.loadAll(x, 4, Words.set(5, -123), Words.add(4, 5, 0), Words.exit(5));
        check.same("code of a ready one", x.code(0), 0);
        x.steps(3);
        check.same("code(0)", x.code(0), -123);
        x.reap(0);
        check.same("code(0)", x.code(0), 0);
        x.load(1);
        check.same("code(0)", x.code(0), 0);
    }

    private static void running() {
        check.section("promise 11");
        BranchingKernel x = new BranchingKernel(12, 2);
        Words.loadAll(x, 4, Words.set(1, 1), Words.add(2, 1, 0), Words.jumpIfNotZero(1, 1));
        x.load(4);
        check.same("before the first step", x.running(), -1);
        x.step();
        check.same("one step of two", x.running(), 0);
        x.step();
        check.same("its row has ended", x.running(), -1);
        x.step();
        check.same("the next one", x.running(), 1);
        x.kill(1);
        check.same("not ready", x.running(), -1);
        x.step();
        check.same("back at 0", x.running(), 0);
        x.kill(0);
        x.step();
        check.same("after IDLE", x.running(), -1);
        runningAfterWait();
        runningIsANumber();
    }

    private static void runningAfterWait() {
        BranchingKernel x = new BranchingKernel(12, 3);
        Words.loadAll(x, 3, Words.fork(1), Words.await(2), Words.print(2));
        x.steps(2);
        check.same("it waits", x.running(), -1);
        x.kill(1);
        check.same("ready again, its row not ended", x.running(), 0);
        check.same("step()", x.step(), BranchingKernel.RAN);
        check.same("its row of three has ended", x.running(), -1);
    }

    /** What runs is a number: the row goes on when another process has it. */
    private static void runningIsANumber() {
        BranchingKernel x = new BranchingKernel(12, 3);
        Words.loadAll(x, 4, Words.set(1, 1), Words.set(1, 2), Words.set(1, 3), Words.set(1, 4));
        x.load(4);
        x.step();
        x.kill(0);
        x.reap(0);
        check.same("running()", x.running(), -1);
        x.load(4);
        check.same("running()", x.running(), 0);
        x.steps(2);
        check.same("register(0, 1)", x.register(0, 1), 2);
        check.same("running()", x.running(), -1);
        x.step();
        check.same("running()", x.running(), 1);
    }

    private static void register() {
        check.section("promise 12");
        BranchingKernel x = new BranchingKernel(12, 20);
        check.same("register of a free one", x.register(0, 9), 0);
        Words.loadAll(x, 20, Words.set(0, 10), Words.set(1, 11), Words.set(2, 12), Words.set(3, 13), Words.set(4, 14),
                Words.set(5, 15), Words.set(6, 16), Words.set(7, 17), Words.fork(7), Words.await(6), Words.exit(0));
        x.steps(8);
        for (int r = 0; r < 8; r++) {
            check.same("register(0, " + r + ")", x.register(0, r), 10 + r);
        }
        check.same("register(0, 8)", x.register(0, 8), 8);
        check.same("register(0, 9)", x.register(0, 9), 20);
        int[] noRegisters = {-1, 10, LOWEST, HIGHEST};
        for (int r : noRegisters) {
            check.same("register(0, " + r + ")", x.register(0, r), 0);
        }
        int[] noNumbers = {-1, 8, LOWEST, HIGHEST};
        for (int p : noNumbers) {
            check.same("register(" + p + ", 9)", x.register(p, 9), 0);
        }
        x.steps(2);
        check.same("state(0)", x.state(0), BranchingKernel.WAITING);
        check.same("a waiting one's register", x.register(0, 3), 13);
        check.same("a waiting one's counter", x.register(0, 8), 9);
        check.same("a waiting one's break", x.register(0, 9), 20);
        x.kill(0);
        for (int r = 0; r <= 9; r++) {
            check.same("a zombie's register " + r, x.register(0, r), 0);
        }
    }

    private static void peek() {
        check.section("promise 13");
        BranchingKernel x = new BranchingKernel(12, 20);
        check.same("peek of a free one", x.peek(0, 0), 0);
        int[] program = {Words.sbrk(1, 20), Words.fork(2), Words.await(3), -5, 6, 7, 8, 9, 10, 11};
        Words.loadAll(x, 10, program);
        for (int i = 0; i < 10; i++) {
            check.same("peek(0, " + i + ")", x.peek(0, i), program[i]);
        }
        int[] noAddresses = {-1, 10, 63, 64, LOWEST, HIGHEST};
        for (int address : noAddresses) {
            check.same("peek(0, " + address + ")", x.peek(0, address), 0);
        }
        int[] noNumbers = {-1, 8, LOWEST, HIGHEST};
        for (int p : noNumbers) {
            check.same("peek(" + p + ", 0)", x.peek(p, 0), 0);
        }
        x.step();
        check.same("frames()", x.frames(), 2);
        check.same("peek of an untouched page", x.peek(0, 29), 0);
        check.same("nothing is touched", x.frames(), 2);
        check.same("nothing is touched", x.sharing(0, 3), 0);
        x.steps(2);
        check.same("peek of a waiting one", x.peek(0, 9), 11);
        check.same("peek of its child", x.peek(1, 9), 11);
        x.kill(0);
        check.same("peek of a zombie", x.peek(0, 9), 0);
        check.same("peek of its child", x.peek(1, 9), 11);
    }

    private static void sharing() {
        check.section("promise 14");
        BranchingKernel x = new BranchingKernel(12, 20);
        check.same("sharing of a free one", x.sharing(0, 0), 0);
        Words.loadAll(x, 9, Words.sbrk(1, 55), Words.fork(2), Words.fork(2), Words.write(2, 0, 8), Words.read(2, 0, 63),
                Words.fork(2), Words.await(3));
        x.step();
        check.same("sharing(0, 0)", x.sharing(0, 0), 1);
        check.same("an untouched page", x.sharing(0, 7), 0);
        int[] noPages = {-1, 8, LOWEST, HIGHEST};
        for (int i : noPages) {
            check.same("sharing(0, " + i + ")", x.sharing(0, i), 0);
        }
        int[] noNumbers = {-1, 8, LOWEST, HIGHEST};
        for (int p : noNumbers) {
            check.same("sharing(" + p + ", 0)", x.sharing(p, 0), 0);
        }
        x.steps(2);
        check.same("sharing(0, 1)", x.sharing(0, 1), 3);
        check.same("sharing(1, 1)", x.sharing(1, 1), 3);
        check.same("sharing(2, 1)", x.sharing(2, 1), 3);
        x.step();
        check.same("sharing(0, 1) after a write", x.sharing(0, 1), 1);
        check.same("sharing(1, 1) after a write", x.sharing(1, 1), 2);
        check.same("sharing(0, 0) after a write elsewhere", x.sharing(0, 0), 3);
        x.step();
        check.same("sharing(0, 7) after a read", x.sharing(0, 7), 1);
        check.same("untouched pages are not shared", x.sharing(1, 7), 0);
        x.steps(2);
        check.same("state(0)", x.state(0), BranchingKernel.WAITING);
        check.same("sharing of a waiting one", x.sharing(0, 1), 2);
        check.same("sharing(3, 1)", x.sharing(3, 1), 2);
        check.same("sharing(3, 7)", x.sharing(3, 7), 2);
        x.kill(3);
        check.same("sharing(0, 1)", x.sharing(0, 1), 1);
        check.same("sharing of a zombie", x.sharing(3, 1), 0);
    }

    private static void frames() {
        check.section("promise 15");
        BranchingKernel x = new BranchingKernel(12, 20);
        check.same("frames()", x.frames(), 0);
        Words.loadAll(x, 17, Words.fork(1), Words.write(1, 0, 16), Words.sbrk(2, 10), Words.read(2, 0, 26),
                Words.sbrk(2, -19), Words.await(2));
        check.same("loaded", x.frames(), 3);
        x.step();
        check.same("forked", x.frames(), 3);
        x.step();
        check.same("written", x.frames(), 4);
        x.step();
        check.same("the break grown", x.frames(), 4);
        x.step();
        check.same("read", x.frames(), 5);
        x.step();
        check.same("two pages released", x.frames(), 3);
        x.kill(0);
        check.same("the child's pages", x.frames(), 3);
        x.kill(1);
        check.same("none", x.frames(), 0);
    }

    private static void printed() {
        check.section("promise 16");
        BranchingKernel x = new BranchingKernel(12, 20);
        check.same("printed()", x.printed(), 0);
        Words.loadAll(x, 3, Words.add(1, 0, 1), Words.print(1), Words.jumpIfNotZero(1, 0));
        for (int k = 0; k < 9; k++) {
            x.steps(50);
        }
        check.same("printed()", x.printed(), 150);
        x.steps(1);
        check.same("printed()", x.printed(), 150);
        x.steps(1);
        check.same("printed()", x.printed(), 151);
        x.kill(0);
        check.same("printed()", x.printed(), 151);
    }

    private static void print() {
        check.section("promise 17");
        BranchingKernel x = new BranchingKernel(12, 20);
        check.same("print(0)", x.print(0), 0);
        Words.loadAll(x, 3, Words.add(1, 0, 1), Words.print(1), Words.jumpIfNotZero(1, 0));
        x.steps(8);
        check.same("print(0)", x.print(0), 3);
        check.same("print(2)", x.print(2), 1);
        check.same("print(3)", x.print(3), 0);
        x.steps(50);
        x.steps(50);
        check.same("printed()", x.printed(), 36);
        for (int k = 0; k < 32; k++) {
            check.same("print(" + k + ")", x.print(k), 36 - k);
        }
        int[] refused = {-1, 32, 33, 35, LOWEST, HIGHEST};
        for (int k : refused) {
            check.same("print(" + k + ")", x.print(k), 0);
        }
    }
}
