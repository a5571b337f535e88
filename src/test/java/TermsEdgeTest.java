/**
 * The boundary cases that the document's terms name, but for those of the ops: frames and classes, pages and addresses,
 * the process that runs next, and what an end does.
 */
public final class TermsEdgeTest {
    private static final int NOT_REACHED = -1;
    private static final Check check = new Check();

    public static void main(String[] args) {
        eachAddressHasItsPage();
        untouchedPagesHoldZeros();
        forkSharesTouchedPagesAlone();
        writeLeavesTheClass();
        lastFrame();
        whatNeedsNoFrame();
        outsideBeforeNoMemory();
        thePageStaysAsItWas();
        framesComeBack();
        nextBehindTheOneThatRuns();
        nextBehindOneThatIsNotReady();
        nextWhereNoneRuns();
        nextBehindIdle();
        aNumberRunsOnWithoutIdle();
        itselfLast();
        noneIsReady();
        endOfAParent();
        endOfAChild();
        eachEndOfAChild();
        check.finish();
    }

    // ---- pages and classes

    private static void eachAddressHasItsPage() {
        check.section("pages of eight addresses");
        for (int address = 8; address < 64; address++) {
            BranchingKernel read = Scenes.one(8, Words.sbrk(1, 56), Words.read(2, 0, address));
            BranchingKernel write = Scenes.one(8, Words.sbrk(1, 56), Words.write(1, 0, address));
            BranchingKernel fetch = Scenes.one(8, Words.sbrk(1, 56), Words.jumpIfNotZero(1, address), 0);
            read.steps(2);
            write.steps(2);
            fetch.steps(3);
            touchedAlone("read at " + address, read, address / 8);
            touchedAlone("write at " + address, write, address / 8);
            touchedAlone("fetch at " + address, fetch, address / 8);
        }
    }

    private static void touchedAlone(String what, BranchingKernel x, int page) {
        for (int i = 0; i < 8; i++) {
            check.same(what + ": sharing(0, " + i + ")", x.sharing(0, i), i == 0 || i == page ? 1 : 0);
        }
        check.same(what + ": frames()", x.frames(), 2);
    }

    /** A frame that held other words before holds zeros when a page takes it by its first touch. */
    private static void untouchedPagesHoldZeros() {
        check.section("untouched pages");
        for (int address = 8; address < 16; address++) {
            BranchingKernel x = new BranchingKernel(2, 20);
            for (int i = 0; i < 64; i++) {
                x.stage(i, 777);
            }
            x.load(16);
            x.kill(0);
            x.reap(0);
            Words.loadAll(x, 8, Words.sbrk(1, 56), Words.set(2, 5), Words.read(2, 0, address), Words.print(2));
            x.steps(4);
            check.same("printed()", x.printed(), 1);
            check.same("the word read at " + address, x.print(0), 0);
            for (int i = 8; i < 16; i++) {
                check.same("peek(0, " + i + ")", x.peek(0, i), 0);
            }
        }
    }

    /** Pages 0 and 1 are touched by the load, of the others each set. */
    private static void forkSharesTouchedPagesAlone() {
        check.section("forked pages");
        for (int touched = 3; touched < 256; touched += 4) {
            BranchingKernel x = new BranchingKernel(12, 20);
            x.stage(0, Words.sbrk(1, 55));
            int at = 1;
            for (int i = 2; i < 8; i++) {
                if (Scenes.has(touched, i)) {
                    x.stage(at++, Words.read(2, 0, 8 * i));
                }
            }
            x.stage(at, Words.fork(3));
            x.load(9);
            x.steps(at);
            check.same("step()", x.step(), BranchingKernel.FORKED);
            for (int i = 0; i < 8; i++) {
                int due = Scenes.has(touched, i) ? 2 : 0;
                check.same("sharing(0, " + i + ") of the set " + touched, x.sharing(0, i), due);
                check.same("sharing(1, " + i + ") of the set " + touched, x.sharing(1, i), due);
            }
            check.same("frames() of the set " + touched, x.frames(), Integer.bitCount(touched));
        }
    }

    /** The writer leaves, the others stay together; the last one of a class has nobody to leave. */
    private static void writeLeavesTheClass() {
        check.section("a class of eight pages");
        BranchingKernel x = Scenes.sevenChildren(Words.write(1, 0, 6));
        check.same("all share", x.sharing(0, 0), 8);
        x.step();
        check.same("the writer", x.sharing(0, 0), 1);
        for (int p = 1; p < 8; p++) {
            check.same("sharing(" + p + ", 0)", x.sharing(p, 0), 7);
            check.same("peek(" + p + ", 6)", x.peek(p, 6), Words.fork(1));
        }
        check.same("peek(0, 6)", x.peek(0, 6), 7);
        check.same("frames()", x.frames(), 2);
        for (int p = 1; p < 7; p++) {
            x.kill(p);
            check.same("those that are left", x.sharing(7, 0), 7 - p);
        }
        check.same("frames()", x.frames(), 2);
        x.kill(0);
        check.same("the last one writes", x.step(), BranchingKernel.RAN);
        check.same("peek(7, 6)", x.peek(7, 6), 0);
        check.same("sharing(7, 0)", x.sharing(7, 0), 1);
        check.same("frames()", x.frames(), 1);
    }

    // ---- the last frame, and no memory

    /**
     * What takes a frame, as words for a process with two pages: the step behind all of them but the last takes it.
     * NOT_REACHED stands where a jump goes to a page that is fetched from.
     */
    private static final int[][] TAKERS = {
        {Words.sbrk(1, 16), Words.read(2, 0, 16)},
        {Words.sbrk(1, 16), Words.read(2, 0, 31)},
        {Words.sbrk(1, 16), Words.write(2, 0, 16)},
        {Words.sbrk(1, 16), Words.write(2, 0, 31)},
        {Words.fork(1), Words.write(1, 0, 8)},
        {Words.fork(1), Words.write(1, 0, 15)},
        {Words.fork(1), Words.write(1, 0, 7)},
        {Words.fork(1), Words.sbrk(2, -1)},
        {Words.fork(1), Words.sbrk(2, -7)},
        {Words.fork(1), Words.sbrk(2, -9)},
        {Words.sbrk(1, 16), Words.jumpIfNotZero(1, 16), NOT_REACHED},
        {Words.sbrk(1, 16), Words.jumpIfNotZero(1, 31), NOT_REACHED},
    };

    private static void lastFrame() {
        check.section("the last frame");
        int[] sizes = {2, 3, 12, 31, 32};
        for (int n : sizes) {
            for (int[] taker : TAKERS) {
                takesOne(n, taker);
            }
        }
    }

    /** With one frame left it goes on, and all are in use then; with none it ends. */
    private static void takesOne(int n, int[] taker) {
        String what = "words " + taker[0] + ", " + taker[1] + " with " + n + " frames";
        if (n > 2) {
            BranchingKernel x = ready(n, n - 1, taker);
            check.same(what + ", one left", x.step(), BranchingKernel.RAN);
            check.same(what + ", one left: frames()", x.frames(), n);
            check.same(what + ", one left: load(1)", x.load(1), BranchingKernel.NO_MEMORY);
        }
        BranchingKernel y = ready(n, n, taker);
        boolean shared = (taker[0] & 15) == 8;
        check.same(what + ", none left: frames()", y.frames(), n);
        check.same(what + ", none left", y.step(), BranchingKernel.ENDED);
        check.same(what + ", none left: state(0)", y.state(0), BranchingKernel.ZOMBIE);
        check.same(what + ", none left: code(0)", y.code(0), BranchingKernel.NO_MEMORY);
        check.same(what + ", none left: frames() then", y.frames(), shared ? n : n - 2);
    }

    /** A process with two pages that has done all its words but the last one, beside others that hold frames. */
    private static BranchingKernel ready(int n, int used, int... words) {
        BranchingKernel x = new BranchingKernel(n, 20);
        for (int i = 0; i < 16; i++) {
            x.stage(i, 500 + i);
        }
        Words.loadAll(x, 16, words);
        x.steps(words.length - 1);
        Scenes.fillFrames(x, used);
        return x;
    }

    private static void whatNeedsNoFrame() {
        check.section("what needs no frame");
        int[][] words = {
            {Words.set(1, 1), Words.fork(1)},
            {Words.fork(1), Words.fork(1)},
            {Words.fork(1), Words.read(2, 0, 8)},
            {Words.fork(1), Words.sbrk(2, 48)},
            {Words.fork(1), Words.sbrk(2, 0)},
            {Words.fork(1), Words.sbrk(2, -8)},
            {Words.fork(1), Words.sbrk(2, -16)},
            {Words.fork(1), Words.sbrk(2, 49)},
            {Words.fork(1), Words.sbrk(2, -17)},
            {Words.set(1, 1), Words.write(1, 0, 15)},
            {Words.set(1, 1), Words.write(1, 0, 0)},
            {Words.set(1, 1), Words.read(1, 0, 15)},
            {Words.set(1, 1), Words.sbrk(1, -1)},
            {Words.set(1, 1), Words.sbrk(1, -15)},
            {Words.sbrk(1, 48), Words.sbrk(1, -1)},
            {Words.sbrk(1, 48), Words.sbrk(1, -47)},
            {Words.sbrk(1, 48), Words.sbrk(1, -48)},
            {Words.set(1, 1), Words.print(1)},
            {Words.fork(1), Words.await(1)},
        };
        int[] sizes = {2, 12, 32};
        for (int n : sizes) {
            for (int[] some : words) {
                BranchingKernel x = ready(n, n, some);
                check.same("frames()", x.frames(), n);
                boolean ended = x.step() == BranchingKernel.ENDED;
                check.same("words " + some[0] + ", " + some[1] + " with " + n + " frames: ended", ended, false);
                check.same("never more frames than " + n, x.frames() <= n, true);
            }
        }
    }

    /** An address that is not there is OUTSIDE, though there were no memory either. */
    private static void outsideBeforeNoMemory() {
        check.section("outside and no memory");
        int[][] outside = {
            {Words.sbrk(1, 4), Words.read(2, 0, 20)},
            {Words.sbrk(1, 4), Words.write(2, 0, 20)},
            {Words.sbrk(1, 16), Words.read(2, 0, 32)},
            {Words.sbrk(1, 16), Words.write(2, 0, -1)},
            {Words.fork(1), Words.write(1, 0, 16)},
        };
        int[][] inside = {
            {Words.sbrk(1, 4), Words.read(2, 0, 19)},
            {Words.sbrk(1, 4), Words.write(2, 0, 19)},
            {Words.sbrk(1, 16), Words.read(2, 0, 31)},
        };
        for (int[] words : outside) {
            endsWith(words, BranchingKernel.OUTSIDE);
        }
        for (int[] words : inside) {
            endsWith(words, BranchingKernel.NO_MEMORY);
        }
        int[] jumps = {20, 19};
        for (int target : jumps) {
            BranchingKernel x = ready(2, 2, Words.sbrk(1, 4), Words.jumpIfNotZero(1, target), NOT_REACHED);
            x.step();
            check.same("fetch at " + target, x.code(0), target == 20 ? BranchingKernel.OUTSIDE : BranchingKernel.NO_MEMORY);
        }
    }

    private static void endsWith(int[] words, int code) {
        BranchingKernel x = ready(2, 2, words);
        check.same("words " + words[0] + ", " + words[1], x.step(), BranchingKernel.ENDED);
        check.same("words " + words[0] + ", " + words[1] + ": code(0)", x.code(0), code);
    }

    /** The one that could not write is gone from the class; the others share it as before, with all its words. */
    private static void thePageStaysAsItWas() {
        check.section("a page without memory");
        int[] lasts = {Words.write(1, 0, 12), Words.sbrk(2, -4)};
        for (int last : lasts) {
            BranchingKernel x = ready(2, 2, Words.fork(1), Words.fork(1), last);
            check.same("sharing(0, 1)", x.sharing(0, 1), 3);
            check.same("step()", x.step(), BranchingKernel.ENDED);
            check.same("code(0)", x.code(0), BranchingKernel.NO_MEMORY);
            for (int p = 1; p <= 2; p++) {
                check.same("parent(" + p + ")", x.parent(p), -1);
                check.same("sharing(" + p + ", 1)", x.sharing(p, 1), 2);
                check.same("register(" + p + ", 9)", x.register(p, 9), 16);
                for (int i = 8; i < 16; i++) {
                    check.same("peek(" + p + ", " + i + ")", x.peek(p, i), 500 + i);
                }
            }
            check.same("frames()", x.frames(), 2);
        }
    }

    /** A frame is in use as long as its class has a page: the last one gives it back. */
    private static void framesComeBack() {
        check.section("frames that come back");
        BranchingKernel x = ready(2, 2, Words.fork(1), Words.fork(1), Words.set(1, 1));
        x.kill(0);
        check.same("frames()", x.frames(), 2);
        check.same("load(1)", x.load(1), BranchingKernel.NO_MEMORY);
        x.kill(1);
        check.same("frames()", x.frames(), 2);
        check.same("load(1)", x.load(1), BranchingKernel.NO_MEMORY);
        x.kill(2);
        check.same("frames()", x.frames(), 0);
        check.same("load(17)", x.load(17), BranchingKernel.NO_MEMORY);
        check.same("load(16)", x.load(16), 3);
    }

    // ---- which process runs

    /** The first ready one behind p; p itself last. */
    private static int nextDue(int p, int set) {
        int due = -1;
        for (int k = 8; k >= 1; k--) {
            if (Scenes.has(set, (p + k) % 8)) {
                due = (p + k) % 8;
            }
        }
        return due;
    }

    /** Each process that runs, its row at its end, and each set of ready ones. */
    private static void nextBehindTheOneThatRuns() {
        check.section("the next one, a row has ended");
        for (int p = 0; p < 8; p++) {
            for (int set = 0; set < 256; set++) {
                BranchingKernel x = Scenes.eightThatCount(1);
                x.steps(p + 1);
                keepAlone(x, set);
                stepIsOf(x, nextDue(p, set), "set " + set + " behind " + p);
            }
        }
    }

    /** Each process that runs, its row not at its end: it goes on if it is ready, and else the next one runs. */
    private static void nextBehindOneThatIsNotReady() {
        check.section("the next one, a row has not ended");
        for (int p = 0; p < 8; p++) {
            for (int set = 0; set < 256; set++) {
                BranchingKernel x = Scenes.eightThatCount(2);
                x.steps(2 * p + 1);
                keepAlone(x, set);
                int due = Scenes.has(set, p) ? p : nextDue(p, set);
                check.same("running()", x.running(), due == p ? p : -1);
                stepIsOf(x, due, "set " + set + " behind " + p);
            }
        }
    }

    private static void nextWhereNoneRuns() {
        check.section("where none runs");
        for (int set = 0; set < 256; set++) {
            BranchingKernel x = Scenes.eightThatCount(3);
            keepAlone(x, set);
            stepIsOf(x, set == 0 ? -1 : Integer.numberOfTrailingZeros(set), "set " + set + ", none runs");
        }
    }

    /** Whichever ran before IDLE, the search begins at 0 again. */
    private static void nextBehindIdle() {
        check.section("behind IDLE");
        for (int p = 0; p < 8; p++) {
            for (int set = 1; set < 256; set++) {
                BranchingKernel x = Scenes.eightThatCount(2);
                x.steps(2 * p + 1);
                allAnew(x, true);
                keepAlone(x, set);
                stepIsOf(x, Integer.numberOfTrailingZeros(set), "set " + set + " behind IDLE, " + p + " ran");
            }
        }
    }

    /** Without a step that is IDLE the number runs on, though its process is another one now. */
    private static void aNumberRunsOnWithoutIdle() {
        check.section("a number that runs");
        for (int p = 0; p < 8; p++) {
            for (int set = 1; set < 256; set++) {
                BranchingKernel x = Scenes.eightThatCount(2);
                x.steps(2 * p + 2);
                allAnew(x, false);
                keepAlone(x, set);
                stepIsOf(x, nextDue(p, set), "set " + set + ", all anew, " + p + " ran");
            }
        }
    }

    private static void allAnew(BranchingKernel x, boolean idleBetween) {
        keepAlone(x, 0);
        if (idleBetween) {
            check.same("step()", x.step(), BranchingKernel.IDLE);
        }
        for (int p = 0; p < 8; p++) {
            x.reap(p);
        }
        for (int p = 0; p < 8; p++) {
            x.load(8);
        }
    }

    private static void keepAlone(BranchingKernel x, int set) {
        for (int p = 0; p < 8; p++) {
            if (!Scenes.has(set, p)) {
                x.kill(p);
            }
        }
    }

    private static void stepIsOf(BranchingKernel x, int due, String what) {
        int[] before = new int[8];
        for (int p = 0; p < 8; p++) {
            before[p] = x.register(p, 1);
        }
        check.same("step() of " + what, x.step(), due == -1 ? BranchingKernel.IDLE : BranchingKernel.RAN);
        for (int p = 0; p < 8; p++) {
            check.same("steps of " + p + ", " + what, x.register(p, 1) - before[p], p == due ? 1 : 0);
        }
    }

    /** The only ready one runs again when its row has ended, and its row begins then. */
    private static void itselfLast() {
        check.section("itself last");
        for (int p = 0; p < 8; p++) {
            BranchingKernel x = Scenes.eightThatCount(3);
            keepAlone(x, 1 << p);
            for (int k = 1; k <= 6; k++) {
                check.same("step " + k, x.step(), BranchingKernel.RAN);
                check.same("running() behind step " + k, x.running(), k % 3 == 0 ? -1 : p);
            }
            check.same("steps of " + p, x.register(p, 1), 6);
        }
    }

    /** Zombies, free ones and those that wait are not ready. */
    private static void noneIsReady() {
        check.section("none is ready");
        check.same("free ones", Scenes.empty().step(), BranchingKernel.IDLE);
        BranchingKernel zombies = Scenes.eightThatCount(3);
        keepAlone(zombies, 0);
        check.same("zombies", zombies.step(), BranchingKernel.IDLE);
        check.same("running()", zombies.running(), -1);
        BranchingKernel x = Scenes.one(3, Words.fork(1), Words.await(2), Words.exit(2));
        x.steps(2);
        check.same("the parent waits", x.state(0), BranchingKernel.WAITING);
        check.same("not the one that waits", x.step(), BranchingKernel.RAN);
        check.same("the child had no children", x.register(1, 2), -1);
        check.same("register(0, 8)", x.register(0, 8), 1);
    }

    // ---- ends

    /** Each way to end, for each parent with seven children. */
    private static void endOfAParent() {
        check.section("the end of a parent");
        int[] lasts = {Words.exit(0), 14, 15, Words.read(1, 0, 8), Words.write(1, 0, -1)};
        int[] codes = {0, BranchingKernel.ILLEGAL, BranchingKernel.ILLEGAL, BranchingKernel.OUTSIDE, BranchingKernel.OUTSIDE};
        for (int parent = 0; parent < 8; parent++) {
            for (int k = 0; k < lasts.length; k++) {
                BranchingKernel x = Scenes.sevenChildren(parent, lasts[k]);
                oneParentEnds(x, parent, codes[k]);
            }
        }
    }

    private static void oneParentEnds(BranchingKernel x, int parent, int code) {
        int zombie = (parent + 3) % 8;
        x.kill(zombie);
        check.same("a zombie with a parent", x.reap(zombie), -1);
        check.same("step()", x.step(), BranchingKernel.ENDED);
        check.same("state(" + parent + ")", x.state(parent), BranchingKernel.ZOMBIE);
        check.same("code(" + parent + ")", x.code(parent), code);
        for (int p = 0; p < 8; p++) {
            boolean ended = p == parent || p == zombie;
            check.same("parent(" + p + ")", x.parent(p), -1);
            check.same("state(" + p + ")", x.state(p), ended ? BranchingKernel.ZOMBIE : BranchingKernel.READY);
            check.same("sharing(" + p + ", 0)", x.sharing(p, 0), ended ? 0 : 6);
        }
        check.same("reap of the child", x.reap(zombie), BranchingKernel.KILLED);
        check.same("reap of the parent", x.reap(parent), code);
    }

    /** Each parent and each of its children: an end wakes the parent that waits, and lets alone the one that does not. */
    private static void endOfAChild() {
        check.section("the end of a child");
        for (int parent = 0; parent < 8; parent++) {
            for (int p = 0; p < 8; p++) {
                if (p != parent) {
                    oneChildEnds(parent, p);
                }
            }
        }
        BranchingKernel x = Scenes.family(16);
        x.kill(4);
        check.same("a parent sleeps on when another's child ends", x.state(0), BranchingKernel.WAITING);
        x.kill(1);
        check.same("and is ready when its own does", x.state(0), BranchingKernel.READY);
    }

    private static void oneChildEnds(int parent, int p) {
        BranchingKernel waits = Scenes.sevenChildren(parent, Words.await(2));
        check.same("step()", waits.step(), BranchingKernel.SLEPT);
        waits.kill(p);
        check.same("the parent is ready", waits.state(parent), BranchingKernel.READY);
        check.same("parent(" + p + ")", waits.parent(p), parent);
        check.same("step()", waits.step(), BranchingKernel.RAN);
        check.same("its code", waits.register(parent, 2), BranchingKernel.KILLED);
        check.same("state(" + p + ")", waits.state(p), BranchingKernel.FREE);
        BranchingKernel ready = Scenes.sevenChildren(parent, Words.set(2, 1));
        ready.kill(p);
        check.same("a ready parent", ready.state(parent), BranchingKernel.READY);
        check.same("a ready parent's counter", ready.register(parent, 8), 7);
    }

    /** Whichever way the child ends, the parent that waits for it is ready then and gets the code. */
    private static void eachEndOfAChild() {
        check.section("each end of a child");
        int[] lasts = {Words.exit(3), 14, 15, Words.read(2, 0, 16), Words.read(2, 0, -1), Words.write(2, 0, 16),
            Words.write(2, 0, 15), Words.sbrk(2, -1)};
        int[] codes = {66, BranchingKernel.ILLEGAL, BranchingKernel.ILLEGAL, BranchingKernel.OUTSIDE, BranchingKernel.OUTSIDE,
            BranchingKernel.OUTSIDE, BranchingKernel.NO_MEMORY, BranchingKernel.NO_MEMORY};
        for (int k = 0; k < lasts.length; k++) {
            BranchingKernel x = new BranchingKernel(2, 20);
            Words.loadAll(x, 16, Words.set(3, 66), Words.fork(1), Words.jumpIfNotZero(1, 4), lasts[k], Words.await(2));
            check.same("steps(5)", x.steps(5), 5);
            check.same("the parent waits", x.state(0), BranchingKernel.WAITING);
            check.same("word " + lasts[k], x.step(), BranchingKernel.ENDED);
            check.same("code(1)", x.code(1), codes[k]);
            check.same("parent(1)", x.parent(1), 0);
            check.same("sharing(0, 0)", x.sharing(0, 0), 1);
            check.same("sharing(0, 1)", x.sharing(0, 1), 1);
            check.same("the parent is ready", x.state(0), BranchingKernel.READY);
            check.same("step()", x.step(), BranchingKernel.RAN);
            check.same("register(0, 2)", x.register(0, 2), codes[k]);
            check.same("state(1)", x.state(1), BranchingKernel.FREE);
        }
    }
}
