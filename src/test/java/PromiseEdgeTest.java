import java.util.function.Consumer;
import java.util.function.Supplier;

/**
 * The boundary cases that the promises name: the last value inside, the first one outside, what is answered then, and,
 * where the document says that nothing changes, that nothing did.
 */
public final class PromiseEdgeTest {
    private static final int LOWEST = Scenes.LOWEST;
    private static final int HIGHEST = Scenes.HIGHEST;
    private static final int[] NO_NUMBERS = Scenes.NO_NUMBERS;
    private static final int FRAMES = 16;
    private static final Check check = new Check();

    public static void main(String[] args) {
        theFamily();
        framesOfANewObject();
        quantumOfANewObject();
        newImage();
        stageInside();
        stageOutside();
        loadOfEachLength();
        loadBadLength();
        loadNoProcess();
        loadNoMemory();
        loadRefusalsInTheirOrder();
        loadTakesTheFirstFree();
        loadWithAUsedNumber();
        stepOfNothing();
        stepsInside();
        stepsUntilIdle();
        stepsOutside();
        killInside();
        killOutside();
        reapInside();
        reapOutside();
        stateEdges();
        parentEdges();
        codeEdges();
        runningEdges();
        registerEdges();
        peekEdges();
        sharingEdges();
        framesEdges();
        printedAndPrint();
        looksChangeNothing();
        check.finish();
    }

    private static BranchingKernel family() {
        return Scenes.family(FRAMES);
    }

    private static void unchanged(String call, Consumer<BranchingKernel> act) {
        Twins.unchanged(check, call + " on a family", PromiseEdgeTest::family, act);
    }

    private static void unchangedWhenEmpty(String call, Consumer<BranchingKernel> act) {
        Twins.unchanged(check, call + " on a new object", Scenes::empty, act);
    }

    /** The tests below lean on this state. */
    private static void theFamily() {
        check.section("the family");
        BranchingKernel x = family();
        int[] states = {BranchingKernel.WAITING, BranchingKernel.READY, BranchingKernel.ZOMBIE, BranchingKernel.ZOMBIE,
            BranchingKernel.READY, BranchingKernel.FREE, BranchingKernel.FREE, BranchingKernel.FREE};
        int[] parents = {-1, 0, 1, -1, -1, -1, -1, -1};
        for (int p = 0; p < 8; p++) {
            check.same("state(" + p + ")", x.state(p), states[p]);
            check.same("parent(" + p + ")", x.parent(p), parents[p]);
        }
        check.same("running()", x.running(), 4);
        check.same("frames()", x.frames(), Scenes.FAMILY_FRAMES);
        check.same("printed()", x.printed(), 1);
        check.same("a shared page", x.sharing(0, 1), 2);
        check.same("an own page", x.sharing(1, 2), 1);
        check.same("an untouched page", x.sharing(1, 3), 0);
    }

    // ---- promise 1

    private static void framesOfANewObject() {
        check.section("promise 1, frames");
        for (int told = -3; told <= 40; told++) {
            frameCount(told, told >= 2 && told <= 32 ? told : 12);
        }
        frameCount(LOWEST, 12);
        frameCount(HIGHEST, 12);
    }

    private static void frameCount(int told, int due) {
        BranchingKernel x = new BranchingKernel(told, 3);
        Scenes.fillFrames(x, due);
        check.same("frames() of new(" + told + ", 3), full", x.frames(), due);
        check.same("load(1) of new(" + told + ", 3), full", x.load(1), BranchingKernel.NO_MEMORY);
    }

    private static void quantumOfANewObject() {
        check.section("promise 1, quantum");
        for (int told = -3; told <= 25; told++) {
            rowLength(told, told >= 1 && told <= 20 ? told : 3);
        }
        rowLength(LOWEST, 3);
        rowLength(HIGHEST, 3);
    }

    private static void rowLength(int told, int due) {
        BranchingKernel x = Scenes.eightThatCount(told);
        for (int k = 1; k <= due; k++) {
            check.same("step " + k + " of new(12, " + told + ")", x.step(), BranchingKernel.RAN);
            check.same("running() behind step " + k + " of new(12, " + told + ")", x.running(), k < due ? 0 : -1);
        }
        check.same("the next one has had no step", x.register(1, 1), 0);
        x.step();
        check.same("the next one has had a step", x.register(1, 1), 1);
    }

    private static void newImage() {
        check.section("promise 1, the image");
        BranchingKernel x = new BranchingKernel(12, 3);
        check.same("load(64)", x.load(64), 0);
        for (int i = 0; i < 64; i++) {
            check.same("peek(0, " + i + ")", x.peek(0, i), 0);
        }
    }

    // ---- promise 2

    private static void stageInside() {
        check.section("promise 2, inside");
        int[] words = {0, 1, -1, LOWEST, HIGHEST};
        for (int i = 0; i < 64; i++) {
            for (int w : words) {
                BranchingKernel x = new BranchingKernel(12, 3);
                x.stage(i, 77);
                check.same("stage(" + i + ", " + w + ")", x.stage(i, w), true);
                x.load(64);
                for (int address = 0; address < 64; address++) {
                    check.same("peek(0, " + address + ")", x.peek(0, address), address == i ? w : 0);
                }
            }
        }
    }

    private static void stageOutside() {
        check.section("promise 2, outside");
        int[] refused = {-1, 64, -64, 128, LOWEST, HIGHEST};
        for (int i : refused) {
            check.same("stage(" + i + ", 5)", Scenes.empty().stage(i, 5), false);
            check.same("stage(" + i + ", 5)", family().stage(i, 5), false);
            unchanged("stage(" + i + ", 5)", x -> x.stage(i, 5));
            unchangedWhenEmpty("stage(" + i + ", 5)", x -> x.stage(i, 5));
        }
    }

    // ---- promise 3

    private static void loadOfEachLength() {
        check.section("promise 3, each length");
        for (int length = 1; length <= 64; length++) {
            BranchingKernel x = new BranchingKernel(12, 3);
            for (int i = 0; i < 64; i++) {
                x.stage(i, 100 + i);
            }
            check.same("load(" + length + ")", x.load(length), 0);
            check.same("its state", x.state(0), BranchingKernel.READY);
            check.same("its parent", x.parent(0), -1);
            for (int r = 0; r <= 9; r++) {
                check.same("register(0, " + r + ")", x.register(0, r), r == 9 ? length : 0);
            }
            check.same("frames()", x.frames(), Scenes.pagesOf(length));
            for (int i = 0; i < 8; i++) {
                check.same("sharing(0, " + i + ") of load(" + length + ")", x.sharing(0, i), 8 * i < length ? 1 : 0);
            }
            for (int i = 0; i < 64; i++) {
                check.same("peek(0, " + i + ") of load(" + length + ")", x.peek(0, i), i < length ? 100 + i : 0);
            }
        }
    }

    private static void loadBadLength() {
        check.section("promise 3, bad length");
        int[] refused = {0, 65, -1, 72, -64, LOWEST, HIGHEST};
        for (int length : refused) {
            check.same("load(" + length + ")", Scenes.empty().load(length), BranchingKernel.BAD_LENGTH);
            check.same("load(" + length + ")", family().load(length), BranchingKernel.BAD_LENGTH);
            unchanged("load(" + length + ")", x -> x.load(length));
            unchangedWhenEmpty("load(" + length + ")", x -> x.load(length));
        }
    }

    private static BranchingKernel fullFamily() {
        BranchingKernel x = family();
        x.load(1);
        x.load(1);
        check.same("the last free process", x.load(1), 7);
        return x;
    }

    private static void loadNoProcess() {
        check.section("promise 3, no process");
        check.same("load(1), none free", fullFamily().load(1), BranchingKernel.NO_PROCESS);
        check.same("load(64), none free", fullFamily().load(64), BranchingKernel.NO_PROCESS);
        Twins.unchanged(check, "load(1), none free", PromiseEdgeTest::fullFamily, x -> x.load(1));
        BranchingKernel x = fullFamily();
        x.reap(3);
        check.same("load(1), one free", x.load(1), 3);
        check.same("load(1), none free", x.load(1), BranchingKernel.NO_PROCESS);
    }

    private static void loadNoMemory() {
        check.section("promise 3, no memory");
        for (int pages = 1; pages <= 8; pages++) {
            int length = 8 * pages;
            Supplier<BranchingKernel> fits = withUnused(pages);
            check.same("load(" + length + ") with " + pages + " frames left", fits.get().load(length), 5);
            BranchingKernel full = fits.get();
            full.load(length - 7);
            check.same("frames()", full.frames(), Scenes.FAMILY_FRAMES + pages);
            check.same("load(1) with none left", full.load(1), BranchingKernel.NO_MEMORY);
            if (pages < 8) {
                check.same("load of a word too many", fits.get().load(length + 1), BranchingKernel.NO_MEMORY);
                check.same("load of a page too many", fits.get().load(length + 8), BranchingKernel.NO_MEMORY);
                check.same("load(64) with " + pages + " frames left", fits.get().load(64), BranchingKernel.NO_MEMORY);
                Twins.unchanged(check, "load(" + (length + 1) + ") without memory", fits, x -> x.load(length + 1));
            }
        }
    }

    private static Supplier<BranchingKernel> withUnused(int frames) {
        return () -> Scenes.family(Scenes.FAMILY_FRAMES + frames);
    }

    private static void loadRefusalsInTheirOrder() {
        check.section("promise 3, the refusals' order");
        BranchingKernel x = new BranchingKernel(8, 3);
        for (int p = 0; p < 8; p++) {
            x.load(1);
        }
        check.same("load(0), none free and no memory", x.load(0), BranchingKernel.BAD_LENGTH);
        check.same("load(65), none free and no memory", x.load(65), BranchingKernel.BAD_LENGTH);
        check.same("load(1), none free and no memory", x.load(1), BranchingKernel.NO_PROCESS);
        BranchingKernel y = new BranchingKernel(2, 3);
        y.load(16);
        check.same("load(65), no memory", y.load(65), BranchingKernel.BAD_LENGTH);
        check.same("load(0), no memory", y.load(0), BranchingKernel.BAD_LENGTH);
    }

    private static void loadTakesTheFirstFree() {
        check.section("promise 3, the first free");
        for (int free = 0; free < 256; free++) {
            BranchingKernel x = Scenes.eightThatCount(3);
            for (int p = 0; p < 8; p++) {
                if (Scenes.has(free, p)) {
                    x.kill(p);
                    x.reap(p);
                }
            }
            int due = free == 0 ? BranchingKernel.NO_PROCESS : Integer.numberOfTrailingZeros(free);
            check.same("load(8) with the set " + free + " free", x.load(8), due);
        }
    }

    /** Nothing is left of the process that had the number before. */
    private static void loadWithAUsedNumber() {
        check.section("promise 3, a number that was used");
        BranchingKernel x = eachRegisterSet();
        x.kill(0);
        x.reap(0);
        check.same("load(20)", x.load(20), 0);
        for (int r = 0; r <= 9; r++) {
            check.same("register(0, " + r + ")", x.register(0, r), r == 9 ? 20 : 0);
        }
        check.same("sharing(0, 3)", x.sharing(0, 3), 0);
        BranchingKernel y = Scenes.sevenChildren(Words.await(2));
        y.kill(0);
        y.kill(7);
        y.reap(7);
        check.same("load(8)", y.load(8), 7);
        check.same("parent(7)", y.parent(7), -1);
        check.same("register(7, 8)", y.register(7, 8), 0);
        check.same("sharing(7, 0)", y.sharing(7, 0), 1);
    }

    // ---- promises 4 and 5

    private static void stepOfNothing() {
        check.section("promise 4, idle");
        check.same("step()", Scenes.empty().step(), BranchingKernel.IDLE);
        unchangedWhenEmpty("step()", x -> x.step());
        BranchingKernel x = family();
        x.kill(1);
        x.kill(0);
        x.kill(4);
        check.same("step() of zombies", x.step(), BranchingKernel.IDLE);
        check.same("running()", x.running(), -1);
    }

    private static void stepsInside() {
        check.section("promise 5, inside");
        for (int n = 0; n <= 50; n++) {
            BranchingKernel x = Scenes.one(2, Words.add(1, 0, 1), Words.jumpIfNotZero(1, 0));
            check.same("steps(" + n + ")", x.steps(n), n);
            check.same("register(0, 1) behind steps(" + n + ")", x.register(0, 1), (n + 1) / 2);
            check.same("register(0, 8) behind steps(" + n + ")", x.register(0, 8), n % 2);
        }
        unchanged("steps(0)", x -> x.steps(0));
        unchangedWhenEmpty("steps(0)", x -> x.steps(0));
        check.same("steps(0) of nothing", Scenes.empty().steps(0), 0);
        check.same("steps(1) of nothing", Scenes.empty().steps(1), 0);
        check.same("steps(50) of nothing", Scenes.empty().steps(50), 0);
    }

    /** A process that ends with its step number m: the step m + 1 is idle. */
    private static void stepsUntilIdle() {
        check.section("promise 5, until one is idle");
        for (int m = 1; m <= 52; m++) {
            BranchingKernel x = new BranchingKernel(12, 3);
            for (int i = 0; i < m - 1; i++) {
                x.stage(i, Words.set(1, i));
            }
            x.stage(m - 1, Words.exit(1));
            x.load(64);
            check.same("steps(50), idle behind " + m, x.steps(50), Math.min(m, 50));
            check.same("state(0)", x.state(0), m <= 50 ? BranchingKernel.ZOMBIE : BranchingKernel.READY);
            check.same("steps(50) again", x.steps(50), Math.max(0, m - 50));
            check.same("steps(50) of none", x.steps(50), 0);
        }
    }

    private static void stepsOutside() {
        check.section("promise 5, outside");
        int[] refused = {-1, 51, -50, 100, LOWEST, HIGHEST};
        for (int n : refused) {
            check.same("steps(" + n + ")", family().steps(n), -1);
            check.same("steps(" + n + ")", Scenes.empty().steps(n), -1);
            unchanged("steps(" + n + ")", x -> x.steps(n));
            unchangedWhenEmpty("steps(" + n + ")", x -> x.steps(n));
        }
    }

    // ---- promises 6 and 7

    private static void killInside() {
        check.section("promise 6, inside");
        for (int p = 0; p < 8; p++) {
            BranchingKernel x = Scenes.eightThatCount(3);
            check.same("kill(" + p + ")", x.kill(p), true);
            for (int q = 0; q < 8; q++) {
                check.same("state(" + q + ")", x.state(q), q == p ? BranchingKernel.ZOMBIE : BranchingKernel.READY);
                check.same("code(" + q + ")", x.code(q), q == p ? BranchingKernel.KILLED : 0);
            }
            check.same("frames()", x.frames(), 7);
        }
        BranchingKernel x = family();
        check.same("kill of a waiting one", x.kill(0), true);
        check.same("state(0)", x.state(0), BranchingKernel.ZOMBIE);
        check.same("code(0)", x.code(0), BranchingKernel.KILLED);
        check.same("kill of a ready one", x.kill(1), true);
        check.same("code(1)", x.code(1), BranchingKernel.KILLED);
    }

    private static void killOutside() {
        check.section("promise 6, outside");
        for (int p : NO_NUMBERS) {
            refusedKill("no number", p);
            check.same("kill(" + p + ")", Scenes.empty().kill(p), false);
            check.same("kill(" + p + ") with all ready", Scenes.eightThatCount(3).kill(p), false);
            unchangedWhenEmpty("kill(" + p + ")", x -> x.kill(p));
        }
        refusedKill("a zombie with a parent", 2);
        refusedKill("a zombie without parent", 3);
        refusedKill("a free one", 5);
        refusedKill("a free one", 7);
        check.same("kill(0) of a new object", Scenes.empty().kill(0), false);
    }

    private static void refusedKill(String what, int p) {
        check.same("kill(" + p + "), " + what, family().kill(p), false);
        unchanged("kill(" + p + "), " + what, x -> x.kill(p));
    }

    private static void reapInside() {
        check.section("promise 7, inside");
        for (int p = 0; p < 8; p++) {
            BranchingKernel x = Scenes.eightThatCount(3);
            x.kill(p);
            check.same("reap(" + p + ")", x.reap(p), BranchingKernel.KILLED);
            check.same("state(" + p + ")", x.state(p), BranchingKernel.FREE);
            check.same("code(" + p + ")", x.code(p), 0);
            check.same("reap(" + p + ") again", x.reap(p), -1);
            check.same("load(8)", x.load(8), p);
        }
        BranchingKernel x = family();
        check.same("a zombie with a parent", x.reap(2), -1);
        x.kill(1);
        check.same("the same when its parent has ended", x.reap(2), BranchingKernel.KILLED);
        check.same("its parent, whose own parent has not", x.reap(1), -1);
        int[] codes = {-1, 0, 2097151, -2097152};
        for (int code : codes) {
            BranchingKernel y = Scenes.one(2, Words.set(1, code), Words.exit(1));
            y.steps(2);
            check.same("reap(0)", y.reap(0), code);
            check.same("state(0) with the code " + code, y.state(0), BranchingKernel.FREE);
        }
    }

    private static void reapOutside() {
        check.section("promise 7, outside");
        for (int p : NO_NUMBERS) {
            refusedReap("no number", p);
            check.same("reap(" + p + ")", Scenes.empty().reap(p), -1);
            unchangedWhenEmpty("reap(" + p + ")", x -> x.reap(p));
        }
        refusedReap("a waiting one", 0);
        refusedReap("a ready one with a parent", 1);
        refusedReap("a zombie with a parent", 2);
        refusedReap("a ready one without parent", 4);
        refusedReap("a free one", 5);
        refusedReap("a free one", 7);
        check.same("reap(0) of a new object", Scenes.empty().reap(0), -1);
    }

    private static void refusedReap(String what, int p) {
        check.same("reap(" + p + "), " + what, family().reap(p), -1);
        unchanged("reap(" + p + "), " + what, x -> x.reap(p));
    }

    // ---- promises 8 to 11

    private static void stateEdges() {
        check.section("promise 8");
        for (int p : NO_NUMBERS) {
            check.same("state(" + p + ")", Scenes.eightThatCount(3).state(p), -1);
            check.same("state(" + p + ")", Scenes.empty().state(p), -1);
        }
        for (int p = 0; p < 8; p++) {
            check.same("state(" + p + ")", Scenes.empty().state(p), BranchingKernel.FREE);
            check.same("state(" + p + ")", Scenes.eightThatCount(3).state(p), BranchingKernel.READY);
        }
    }

    private static void parentEdges() {
        check.section("promise 9");
        for (int p : NO_NUMBERS) {
            check.same("parent(" + p + ")", Scenes.sevenChildren(0).parent(p), -1);
        }
        BranchingKernel x = Scenes.sevenChildren(0);
        for (int p = 0; p < 8; p++) {
            check.same("parent(" + p + ")", x.parent(p), p == 0 ? -1 : 0);
            check.same("parent(" + p + "), free", Scenes.empty().parent(p), -1);
            check.same("parent(" + p + "), loaded", Scenes.eightThatCount(3).parent(p), -1);
        }
        x.kill(7);
        check.same("parent of a zombie", x.parent(7), 0);
        x.kill(0);
        for (int p = 0; p < 8; p++) {
            check.same("parent(" + p + ") behind its parent's end", x.parent(p), -1);
        }
        childThatWasTaken();
    }

    /** It is free behind WAIT, and has no parent then; nor has the next process with its number. */
    private static void childThatWasTaken() {
        BranchingKernel x = Scenes.sevenChildren(Words.await(2));
        x.kill(7);
        x.step();
        check.same("state(7)", x.state(7), BranchingKernel.FREE);
        check.same("parent(7)", x.parent(7), -1);
        check.same("load(8)", x.load(8), 7);
        check.same("parent(7)", x.parent(7), -1);
    }

    private static void codeEdges() {
        check.section("promise 10");
        for (int p : NO_NUMBERS) {
            check.same("code(" + p + ")", family().code(p), 0);
        }
        BranchingKernel x = family();
        int[] due = {0, 0, BranchingKernel.KILLED, BranchingKernel.KILLED, 0, 0, 0, 0};
        for (int p = 0; p < 8; p++) {
            check.same("code(" + p + ")", x.code(p), due[p]);
        }
        x.reap(3);
        check.same("code of one that was a zombie", x.code(3), 0);
        x.load(1);
        check.same("state(3)", x.state(3), BranchingKernel.READY);
        check.same("code of one whose number a zombie had", x.code(3), 0);
        BranchingKernel y = Scenes.sevenChildren(Words.exit(1));
        y.step();
        for (int p = 0; p < 8; p++) {
            y.kill(p);
            check.same("code(" + p + ")", y.code(p), p == 0 ? 7 : BranchingKernel.KILLED);
        }
    }

    private static void runningEdges() {
        check.section("promise 11");
        check.same("of a new object", Scenes.empty().running(), -1);
        check.same("before the first step", Scenes.eightThatCount(3).running(), -1);
        BranchingKernel x = Scenes.eightThatCount(1);
        x.step();
        check.same("a row of one step has ended with it", x.running(), -1);
        BranchingKernel y = Scenes.eightThatCount(2);
        y.steps(15);
        check.same("7", y.running(), 7);
        y.kill(6);
        check.same("7, another's end", y.running(), 7);
        y.kill(7);
        check.same("a zombie", y.running(), -1);
        y.reap(7);
        check.same("a free one", y.running(), -1);
        BranchingKernel z = Scenes.sevenChildren(Words.await(1));
        check.same("0", z.running(), 0);
        z.step();
        check.same("one that waits", z.running(), -1);
        BranchingKernel s = Scenes.one(2, Words.set(1, 1), Words.endRow());
        s.step();
        check.same("before op 12", s.running(), 0);
        s.step();
        check.same("behind op 12", s.running(), -1);
        BranchingKernel e = Scenes.one(1, Words.exit(0));
        e.step();
        check.same("behind an exit", e.running(), -1);
        e.step();
        check.same("behind IDLE", e.running(), -1);
    }

    // ---- promises 12 to 14

    /** A process with something else than 0 in each register, in its counter and in its break. */
    private static BranchingKernel eachRegisterSet() {
        BranchingKernel x = new BranchingKernel(12, 20);
        for (int r = 0; r < 8; r++) {
            x.stage(r, Words.set(r, 50 + r));
        }
        x.load(30);
        x.steps(8);
        return x;
    }

    private static void registerEdges() {
        check.section("promise 12");
        BranchingKernel x = eachRegisterSet();
        int[] due = {0, 50, 51, 52, 53, 54, 55, 56, 57, 8, 30, 0};
        for (int r = -1; r <= 10; r++) {
            check.same("register(0, " + r + ")", x.register(0, r), due[r + 1]);
        }
        check.same("register(0, LOWEST)", x.register(0, LOWEST), 0);
        check.same("register(0, HIGHEST)", x.register(0, HIGHEST), 0);
        BranchingKernel y = Scenes.eightThatCount(1);
        y.steps(8);
        for (int r = -1; r <= 10; r++) {
            for (int p : NO_NUMBERS) {
                check.same("register(" + p + ", " + r + ")", y.register(p, r), 0);
            }
        }
        for (int p = 0; p < 8; p++) {
            check.same("register(" + p + ", 1)", y.register(p, 1), 1);
            check.same("register(" + p + ", 9)", y.register(p, 9), 8);
        }
        x.kill(0);
        nothingInRegisters("a zombie's", x, 0);
        x.reap(0);
        nothingInRegisters("a free one's", x, 0);
    }

    private static void nothingInRegisters(String what, BranchingKernel x, int p) {
        for (int r = -1; r <= 10; r++) {
            check.same(what + " register " + r, x.register(p, r), 0);
        }
    }

    private static void peekEdges() {
        check.section("promise 13");
        for (int length = 1; length <= 64; length++) {
            BranchingKernel x = new BranchingKernel(12, 3);
            for (int i = 0; i < 64; i++) {
                x.stage(i, -1 - i);
            }
            x.load(length);
            check.same("peek(0, -1)", x.peek(0, -1), 0);
            check.same("peek(0, 0)", x.peek(0, 0), -1);
            check.same("peek(0, " + (length - 1) + ")", x.peek(0, length - 1), -length);
            check.same("peek(0, " + length + ")", x.peek(0, length), 0);
            check.same("peek(0, 64)", x.peek(0, 64), 0);
            check.same("peek(0, LOWEST)", x.peek(0, LOWEST), 0);
            check.same("peek(0, HIGHEST)", x.peek(0, HIGHEST), 0);
        }
        BranchingKernel y = Scenes.eightThatCount(3);
        for (int p : NO_NUMBERS) {
            check.same("peek(" + p + ", 0)", y.peek(p, 0), 0);
        }
        check.same("peek(7, 0)", y.peek(7, 0), Words.add(1, 0, 1));
        y.kill(7);
        check.same("a zombie's", y.peek(7, 0), 0);
        y.reap(7);
        check.same("a free one's", y.peek(7, 0), 0);
        peekTouchesNothing();
    }

    private static void peekTouchesNothing() {
        for (int address = 8; address < 64; address++) {
            BranchingKernel x = Scenes.one(8, Words.sbrk(1, 56));
            x.step();
            check.same("peek(0, " + address + ")", x.peek(0, address), 0);
            check.same("sharing(0, " + address / 8 + ")", x.sharing(0, address / 8), 0);
            check.same("frames()", x.frames(), 1);
        }
    }

    private static void sharingEdges() {
        check.section("promise 14");
        BranchingKernel x = new BranchingKernel(12, 20);
        Words.loadAll(x, 64, Words.fork(1), Words.write(1, 0, 63));
        for (int i = -1; i <= 8; i++) {
            check.same("sharing(0, " + i + ")", x.sharing(0, i), i >= 0 && i < 8 ? 1 : 0);
        }
        x.step();
        for (int i = -1; i <= 8; i++) {
            check.same("sharing(1, " + i + ")", x.sharing(1, i), i >= 0 && i < 8 ? 2 : 0);
        }
        check.same("sharing(0, LOWEST)", x.sharing(0, LOWEST), 0);
        check.same("sharing(0, HIGHEST)", x.sharing(0, HIGHEST), 0);
        BranchingKernel y = Scenes.sevenChildren(0);
        for (int p = 0; p < 8; p++) {
            check.same("all eight share", y.sharing(p, 0), 8);
            check.same("an untouched page", y.sharing(p, 1), 0);
        }
        for (int p : NO_NUMBERS) {
            check.same("sharing(" + p + ", 0)", y.sharing(p, 0), 0);
        }
        y.kill(0);
        check.same("a zombie's", y.sharing(0, 0), 0);
        check.same("seven share", y.sharing(7, 0), 7);
        y.reap(0);
        check.same("a free one's", y.sharing(0, 0), 0);
    }

    // ---- promises 15 to 17

    private static void framesEdges() {
        check.section("promise 15");
        check.same("none", Scenes.empty().frames(), 0);
        BranchingKernel x = new BranchingKernel(32, 3);
        for (int k = 1; k <= 4; k++) {
            x.load(64);
            check.same("frames() behind load " + k, x.frames(), 8 * k);
        }
        for (int p = 0; p < 4; p++) {
            x.kill(p);
            check.same("frames() behind kill " + p, x.frames(), 24 - 8 * p);
        }
        check.same("one class of eight pages", Scenes.sevenChildren(0).frames(), 1);
    }

    private static void printedAndPrint() {
        check.section("promises 16 and 17");
        BranchingKernel x = Scenes.one(3, Words.add(1, 0, 1), Words.print(1), Words.jumpIfNotZero(1, 0));
        for (int count = 0; count <= 70; count++) {
            String at = " when " + count + " are printed";
            check.same("printed()" + at, x.printed(), count);
            check.same("print(0)" + at, x.print(0), count);
            check.same("print(31)" + at, x.print(31), Math.max(0, count - 31));
            check.same("print(32)" + at, x.print(32), 0);
            check.same("print(count)" + at, x.print(count), 0);
            check.same("print(count - 1)" + at, x.print(count - 1), count >= 1 && count <= 32 ? 1 : 0);
            x.steps(3);
        }
        int[] counts = {0, 1, 31, 32, 33, 63, 64, 65};
        for (int count : counts) {
            everyPrint(count);
        }
    }

    private static void everyPrint(int count) {
        BranchingKernel x = Scenes.one(3, Words.add(1, 0, 1), Words.print(1), Words.jumpIfNotZero(1, 0));
        for (int k = 0; k < count; k++) {
            x.steps(3);
        }
        for (int k = -40; k <= 70; k++) {
            int due = k >= 0 && k < 32 && k < count ? count - k : 0;
            check.same("print(" + k + ") when " + count + " are printed", x.print(k), due);
        }
        check.same("print(LOWEST)", x.print(LOWEST), 0);
        check.same("print(HIGHEST)", x.print(HIGHEST), 0);
    }

    /** No look changes anything, whether there is something to see or not. */
    private static void looksChangeNothing() {
        check.section("looks");
        int[] some = {LOWEST, -1, 0, 1, 2, 3, 4, 5, 7, 8, 9, 31, 32, 63, 64, HIGHEST};
        for (int k : some) {
            unchanged("looks with " + k, x -> lookWith(x, k));
            unchangedWhenEmpty("looks with " + k, x -> lookWith(x, k));
        }
    }

    private static void lookWith(BranchingKernel x, int k) {
        x.state(k);
        x.parent(k);
        x.code(k);
        x.running();
        x.register(k, 8);
        x.register(1, k);
        x.peek(k, 25);
        x.peek(1, k);
        x.sharing(k, 0);
        x.sharing(1, k);
        x.frames();
        x.printed();
        x.print(k);
    }
}
