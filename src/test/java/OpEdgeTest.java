/** The boundary cases of each op of a step: the last value inside, the first one outside, and what happens then. */
public final class OpEdgeTest {
    private static final int LOWEST = Scenes.LOWEST;
    private static final int HIGHEST = Scenes.HIGHEST;
    private static final int HIGHEST_C = 2097151;
    private static final int LOWEST_C = -2097152;
    private static final Check check = new Check();

    public static void main(String[] args) {
        constants();
        sumsThatWrap();
        differencesThatWrap();
        eachPairOfRegisters();
        notZero();
        less();
        whereAJumpGoes();
        readEdges();
        writeEdges();
        addressesFarAway();
        fetchEdges();
        printsAnyWord();
        forkTakesTheFirstFree();
        forkWithoutFree();
        eachForkedRegister();
        breakWithinOwnPages();
        breakWithinSharedPages();
        breakRefused();
        breakByNothingInASharedPage();
        zerosFromTheBreakOn();
        exitCodes();
        waitTakesTheFirstZombie();
        waitWithoutChildren();
        waitSleeps();
        waitSleepsForEachOnlyChild();
        endOfARow();
        ownNumbers();
        lastOpAndIllegalOps();
        check.finish();
    }

    /** Registers 1 and 2 are read from the memory, for c cannot say every int; then the word is done. */
    private static BranchingKernel withRegisters(int one, int two, int word) {
        BranchingKernel x = new BranchingKernel(12, 20);
        x.stage(14, one);
        x.stage(15, two);
        Words.loadAll(x, 16, Words.read(1, 0, 14), Words.read(2, 0, 15), word);
        x.steps(2);
        check.same("register(0, 1)", x.register(0, 1), one);
        check.same("register(0, 2)", x.register(0, 2), two);
        check.same("step()", x.step(), BranchingKernel.RAN);
        return x;
    }

    // ---- ops 0, 1, 2

    private static void constants() {
        check.section("op 0");
        int[] some = {0, 1, -1, 63, 64, HIGHEST_C, LOWEST_C};
        for (int a = 0; a < 8; a++) {
            for (int c : some) {
                BranchingKernel x = Scenes.one(1, Words.set(a, c));
                check.same("step()", x.step(), BranchingKernel.RAN);
                for (int r = 0; r < 8; r++) {
                    check.same("register(0, " + r + ")", x.register(0, r), r == a ? c : 0);
                }
            }
        }
        check.same("the lowest word: op 0, c lowest", wordInRegister0(LOWEST), LOWEST_C);
        check.same("the highest word with op 0", wordInRegister0(HIGHEST & ~1023), HIGHEST_C);
    }

    private static int wordInRegister0(int w) {
        BranchingKernel x = Scenes.one(1, w);
        x.step();
        return x.register(0, 0);
    }

    private static void sumsThatWrap() {
        check.section("op 1");
        int[][] rows = {
            {HIGHEST, 0, 0, HIGHEST}, {HIGHEST, 0, 1, LOWEST}, {HIGHEST, 1, 0, LOWEST}, {HIGHEST, 1, -1, HIGHEST},
            {LOWEST, 0, 0, LOWEST}, {LOWEST, 0, -1, HIGHEST}, {LOWEST, -1, 0, HIGHEST}, {HIGHEST, HIGHEST, 2, 0},
            {LOWEST, LOWEST, 0, 0}, {HIGHEST, LOWEST, 1, 0}, {-1, 0, 1, 0},
            {0, 0, LOWEST_C, LOWEST_C}, {0, 0, HIGHEST_C, HIGHEST_C},
        };
        for (int[] row : rows) {
            BranchingKernel x = withRegisters(row[0], row[1], Words.add(1, 2, row[2]));
            check.same(row[0] + " + " + row[1] + " + " + row[2], x.register(0, 1), row[3]);
            check.same("b stays", x.register(0, 2), row[1]);
        }
    }

    private static void differencesThatWrap() {
        check.section("op 2");
        int[][] rows = {
            {LOWEST, 0, LOWEST}, {LOWEST, 1, HIGHEST}, {HIGHEST, -1, LOWEST}, {HIGHEST, HIGHEST, 0}, {0, LOWEST, LOWEST},
            {-1, LOWEST, HIGHEST}, {0, 1, -1},
        };
        for (int[] row : rows) {
            BranchingKernel x = withRegisters(row[0], row[1], Words.word(2, 1, 2, 9));
            check.same(row[0] + " - " + row[1], x.register(0, 1), row[2]);
            check.same("b stays", x.register(0, 2), row[1]);
        }
    }

    /** Registers hold 10 + their number; a and b are the same one too. */
    private static void eachPairOfRegisters() {
        check.section("each a and b");
        for (int a = 0; a < 8; a++) {
            for (int b = 0; b < 8; b++) {
                oneRegisterChanges("op 1", Words.add(a, b, 5), a, 10 + a + 10 + b + 5);
                oneRegisterChanges("op 2", Words.subtract(a, b), a, a - b);
                oneRegisterChanges("op 3", Words.read(a, b, 2), a, 900 + 10 + b + 2);
                oneRegisterChanges("op 4", Words.write(a, b, 2), a, 10 + a);
                oneRegisterChanges("op 6", Words.jumpIfLess(a, b, 40), a, 10 + a);
                BranchingKernel x = tens(Words.write(a, b, 2));
                check.same("op 4: peek(0, 10 + b + 2)", x.peek(0, 12 + b), 10 + a);
                BranchingKernel y = tens(Words.jumpIfLess(a, b, 40));
                check.same("op 6: register(0, 8)", y.register(0, 8), a < b ? 40 : 9);
            }
        }
    }

    private static BranchingKernel tens(int word) {
        BranchingKernel x = new BranchingKernel(12, 20);
        for (int i = 0; i < 64; i++) {
            x.stage(i, 900 + i);
        }
        for (int r = 0; r < 8; r++) {
            x.stage(r, Words.set(r, 10 + r));
        }
        x.stage(8, word);
        x.load(64);
        x.steps(9);
        return x;
    }

    private static void oneRegisterChanges(String what, int word, int a, int due) {
        BranchingKernel x = tens(word);
        for (int r = 0; r < 8; r++) {
            check.same(what + ", word " + word + ": register(0, " + r + ")", x.register(0, r), r == a ? due : 10 + r);
        }
    }

    // ---- ops 5, 6

    private static void notZero() {
        check.section("op 5");
        int[] some = {0, 1, -1, 2, LOWEST, HIGHEST};
        for (int value : some) {
            BranchingKernel x = withRegisters(value, 0, Words.word(5, 1, 2, 7));
            check.same("register(0, 8), a is " + value, x.register(0, 8), value == 0 ? 3 : 7);
        }
    }

    private static void less() {
        check.section("op 6");
        int[] some = {LOWEST, LOWEST + 1, -1, 0, 1, HIGHEST - 1, HIGHEST};
        for (int i = 0; i < some.length; i++) {
            for (int k = 0; k < some.length; k++) {
                BranchingKernel x = withRegisters(some[i], some[k], Words.jumpIfLess(1, 2, 7));
                check.same("register(0, 8), " + some[i] + " and " + some[k], x.register(0, 8), i < k ? 7 : 3);
            }
        }
    }

    private static void whereAJumpGoes() {
        check.section("jumps");
        int[] some = {0, 3, 15, 16, 63, 64, -1, HIGHEST_C, LOWEST_C};
        for (int target : some) {
            BranchingKernel x = withRegisters(-1, 1, Words.jumpIfNotZero(1, target));
            check.same("op 5: register(0, 8)", x.register(0, 8), target);
            check.same("op 5: state(0)", x.state(0), BranchingKernel.READY);
            BranchingKernel y = withRegisters(-1, 1, Words.jumpIfLess(1, 2, target));
            check.same("op 6: register(0, 8)", y.register(0, 8), target);
            boolean inside = target >= 0 && target < 16;
            endsOutside("fetch at " + target, x, !inside);
        }
    }

    // ---- ops 3, 4 and the fetch

    private static void endsOutside(String what, BranchingKernel x, boolean due) {
        int did = x.step();
        check.same(what + ": ended", did == BranchingKernel.ENDED, due);
        check.same(what + ": state(0)", x.state(0), due ? BranchingKernel.ZOMBIE : BranchingKernel.READY);
        check.same(what + ": code(0)", x.code(0), due ? BranchingKernel.OUTSIDE : 0);
        if (due) {
            check.same(what + ": frames()", x.frames(), 0);
        }
    }

    /** Each break, and the addresses at its edges. */
    private static void readEdges() {
        check.section("op 3");
        for (int length = 1; length <= 64; length++) {
            String what = " with the break " + length;
            endsOutside("read at -1" + what, Scenes.one(length, Words.read(1, 0, -1)), true);
            endsOutside("read at 0" + what, Scenes.one(length, Words.read(1, 0, 0)), false);
            endsOutside("read at the last" + what, Scenes.one(length, Words.read(1, 0, length - 1)), false);
            endsOutside("read at the break" + what, Scenes.one(length, Words.read(1, 0, length)), true);
            endsOutside("read at 64" + what, Scenes.one(length, Words.read(1, 0, 64)), true);
        }
    }

    private static void writeEdges() {
        check.section("op 4");
        for (int length = 1; length <= 64; length++) {
            String what = " with the break " + length;
            endsOutside("write at -1" + what, Scenes.one(length, Words.write(1, 0, -1)), true);
            endsOutside("write at 0" + what, Scenes.one(length, Words.write(1, 0, 0)), false);
            endsOutside("write at the last" + what, Scenes.one(length, Words.write(1, 0, length - 1)), false);
            endsOutside("write at the break" + what, Scenes.one(length, Words.write(1, 0, length)), true);
            endsOutside("write at 64" + what, Scenes.one(length, Words.write(1, 0, 64)), true);
        }
    }

    /** b + c with the largest and smallest b and c, and a negative b or c that comes to an address again. */
    private static void addressesFarAway() {
        check.section("b + c");
        int[][] rows = {
            {HIGHEST, HIGHEST_C}, {HIGHEST, 1}, {HIGHEST, 0}, {LOWEST, LOWEST_C}, {LOWEST, -1}, {LOWEST, 0}, {HIGHEST, LOWEST_C},
            {LOWEST, HIGHEST_C}, {-5, 4}, {5, -6}, {20, -4}, {-4, 20}, {0, 16}, {16, 0}, {0, -1}, {-1, 0},
            {-5, 5}, {5, -5}, {20, -5}, {-5, 20}, {0, 15}, {15, 0}, {0, 0}, {HIGHEST_C, -HIGHEST_C}, {-LOWEST_C, LOWEST_C},
        };
        for (int[] row : rows) {
            long address = (long) row[0] + row[1];
            boolean due = address < 0 || address > 15;
            int[] words = {Words.read(2, 1, row[1]), Words.write(2, 1, row[1])};
            for (int word : words) {
                BranchingKernel x = new BranchingKernel(12, 20);
                x.stage(15, row[0]);
                Words.loadAll(x, 16, Words.read(1, 0, 15), word);
                x.step();
                endsOutside("word " + word + " at " + row[0] + " + " + row[1], x, due);
            }
        }
    }

    /** A counter that runs to the break, for each break. */
    private static void fetchEdges() {
        check.section("the fetch");
        for (int length = 1; length <= 64; length++) {
            BranchingKernel x = new BranchingKernel(12, 20);
            x.load(length);
            check.same("steps", x.steps(Math.min(50, length)), Math.min(50, length));
            x.steps(Math.max(0, length - 50));
            check.same("state(0) at the break", x.state(0), BranchingKernel.READY);
            check.same("register(0, 8) at the break", x.register(0, 8), length);
            endsOutside("fetch at the break " + length, x, true);
        }
    }

    // ---- op 7

    private static void printsAnyWord() {
        check.section("op 7");
        int[] some = {0, 1, -1, LOWEST, HIGHEST};
        for (int value : some) {
            BranchingKernel x = new BranchingKernel(12, 20);
            x.stage(15, value);
            Words.loadAll(x, 16, Words.read(7, 0, 15), Words.word(7, 7, 3, 5));
            x.step();
            check.same("step()", x.step(), BranchingKernel.PRINTED);
            check.same("printed()", x.printed(), 1);
            check.same("print(0)", x.print(0), value);
            check.same("register(0, 7)", x.register(0, 7), value);
        }
    }

    // ---- op 8

    /** Each set of free ones among 1 .. 7. */
    private static void forkTakesTheFirstFree() {
        check.section("op 8");
        for (int free = 0; free < 256; free += 2) {
            BranchingKernel x = new BranchingKernel(12, 20);
            Words.stageAll(x, Words.set(3, 9), Words.fork(3));
            for (int p = 0; p < 8; p++) {
                x.load(2);
            }
            x.step();
            for (int p = 1; p < 8; p++) {
                if (Scenes.has(free, p)) {
                    x.kill(p);
                    x.reap(p);
                }
            }
            int due = free == 0 ? -1 : Integer.numberOfTrailingZeros(free);
            String what = "the set " + free + " free: ";
            check.same(what + "step()", x.step(), free == 0 ? BranchingKernel.RAN : BranchingKernel.FORKED);
            check.same(what + "register(0, 3)", x.register(0, 3), due);
            for (int p = 1; p < 8; p++) {
                boolean isFree = Scenes.has(free, p) && p != due;
                check.same(what + "state(" + p + ")", x.state(p), isFree ? BranchingKernel.FREE : BranchingKernel.READY);
                check.same(what + "parent(" + p + ")", x.parent(p), p == due ? 0 : -1);
            }
        }
    }

    /** Zombies and those that wait are not free; nothing but a and the counter changes. */
    private static void forkWithoutFree() {
        check.section("op 8, none free");
        for (int a = 0; a < 8; a++) {
            BranchingKernel x = Scenes.sevenChildren(Words.fork(a));
            x.kill(5);
            check.same("step()", x.step(), BranchingKernel.RAN);
            for (int r = 0; r < 8; r++) {
                check.same("register(0, " + r + ")", x.register(0, r), r == a ? -1 : r == 1 ? 7 : 0);
            }
            check.same("register(0, 8)", x.register(0, 8), 8);
            check.same("state(5)", x.state(5), BranchingKernel.ZOMBIE);
            check.same("sharing(0, 0)", x.sharing(0, 0), 7);
            check.same("frames()", x.frames(), 1);
        }
    }

    private static void eachForkedRegister() {
        check.section("op 8, registers");
        for (int a = 0; a < 8; a++) {
            BranchingKernel x = tens(Words.fork(a));
            for (int r = 0; r < 8; r++) {
                check.same("register(0, " + r + ")", x.register(0, r), r == a ? 1 : 10 + r);
                check.same("register(1, " + r + ")", x.register(1, r), r == a ? 0 : 10 + r);
            }
            check.same("register(1, 8)", x.register(1, 8), 9);
            check.same("register(1, 9)", x.register(1, 9), 64);
        }
    }

    // ---- op 9

    /** Each break and each new one that it can become; then it grows to 64, so that what lies behind it can be seen. */
    private static void breakWithinOwnPages() {
        check.section("op 9");
        for (int old = 1; old <= 64; old++) {
            for (int next = 0; next <= 64; next++) {
                oneMoveOfTheBreak(old, next);
            }
        }
    }

    private static void oneMoveOfTheBreak(int old, int next) {
        String what = "the break from " + old + " to " + next + ": ";
        BranchingKernel x = new BranchingKernel(8, 20);
        for (int i = 0; i < 64; i++) {
            x.stage(i, 700 + i);
        }
        Words.loadAll(x, old, Words.sbrk(1, next - old), Words.sbrk(2, 64 - next));
        check.same(what + "step()", x.step(), BranchingKernel.RAN);
        check.same(what + "register(0, 1)", x.register(0, 1), old);
        check.same(what + "register(0, 8)", x.register(0, 8), 1);
        check.same(what + "register(0, 9)", x.register(0, 9), next);
        int touched = Scenes.pagesOf(Math.min(old, next));
        for (int i = 0; i < 8; i++) {
            check.same(what + "sharing(0, " + i + ")", x.sharing(0, i), i < touched ? 1 : 0);
        }
        check.same(what + "frames()", x.frames(), touched);
        if (old >= 2 && next >= 2) {
            x.step();
            check.same(what + "register(0, 2)", x.register(0, 2), next);
            check.same(what + "register(0, 9)", x.register(0, 9), 64);
            for (int i = 2; i < 64; i++) {
                check.same(what + "peek(0, " + i + ")", x.peek(0, i), i < Math.min(old, next) ? 700 + i : 0);
            }
            check.same(what + "frames()", x.frames(), touched);
        }
    }

    /** The same with a child that has all pages too: one is copied if the break became less and lies inside of it. */
    private static void breakWithinSharedPages() {
        check.section("op 9, shared");
        for (int old = 2; old <= 64; old++) {
            for (int next = 0; next <= 64; next++) {
                oneMoveInSharedPages(old, next);
            }
        }
    }

    private static void oneMoveInSharedPages(int old, int next) {
        String what = "shared, the break from " + old + " to " + next + ": ";
        BranchingKernel x = new BranchingKernel(9, 20);
        for (int i = 0; i < 64; i++) {
            x.stage(i, 700 + i);
        }
        Words.loadAll(x, old, Words.fork(3), Words.sbrk(1, next - old));
        x.step();
        check.same(what + "step()", x.step(), BranchingKernel.RAN);
        int copied = next < old && next % 8 != 0 ? next / 8 : -1;
        int kept = Scenes.pagesOf(Math.min(old, next));
        int all = Scenes.pagesOf(old);
        for (int i = 0; i < 8; i++) {
            check.same(what + "sharing(0, " + i + ")", x.sharing(0, i), i >= kept ? 0 : i == copied ? 1 : 2);
            check.same(what + "sharing(1, " + i + ")", x.sharing(1, i), i >= all ? 0 : i >= kept || i == copied ? 1 : 2);
        }
        check.same(what + "frames()", x.frames(), all + (copied >= 0 ? 1 : 0));
        check.same(what + "register(1, 9)", x.register(1, 9), old);
        for (int i = 2; i < 64; i++) {
            check.same(what + "peek(0, " + i + ")", x.peek(0, i), i < Math.min(old, next) ? 700 + i : 0);
            check.same(what + "peek(1, " + i + ")", x.peek(1, i), i < old ? 700 + i : 0);
        }
    }

    /** Each break, by one word too many to both sides, and by as much as c can say. */
    private static void breakRefused() {
        check.section("op 9, refused");
        for (int old = 1; old <= 64; old++) {
            int[] refused = {-old - 1, 65 - old, LOWEST_C, HIGHEST_C, -old - 8, 72 - old};
            for (int c : refused) {
                String what = "the break " + old + " by " + c + ": ";
                BranchingKernel x = new BranchingKernel(12, 20);
                for (int i = 0; i < 64; i++) {
                    x.stage(i, 700 + i);
                }
                Words.loadAll(x, old, Words.sbrk(5, c));
                check.same(what + "step()", x.step(), BranchingKernel.RAN);
                for (int r = 0; r <= 9; r++) {
                    check.same(what + "register " + r, x.register(0, r), r == 5 ? -1 : r == 8 ? 1 : r == 9 ? old : 0);
                }
                check.same(what + "frames()", x.frames(), Scenes.pagesOf(old));
                for (int i = 1; i < old; i++) {
                    check.same(what + "peek(0, " + i + ")", x.peek(0, i), 700 + i);
                }
            }
        }
        int[] ofNothing = {-1, 65};
        for (int c : ofNothing) {
            check.same("the break 0 cannot be tried further: it has no word", fromNothing(c), BranchingKernel.OUTSIDE);
        }
    }

    private static int fromNothing(int c) {
        BranchingKernel x = Scenes.one(2, Words.sbrk(1, -2), Words.sbrk(1, c));
        x.steps(2);
        return x.code(0);
    }

    /** Zeros are written only if the break became less. */
    private static void breakByNothingInASharedPage() {
        check.section("op 9, by -1, 0 and 1 in a shared page");
        int[] moves = {-1, 0, 1};
        for (int c : moves) {
            BranchingKernel x = new BranchingKernel(12, 20);
            Words.loadAll(x, 12, Words.fork(3), Words.sbrk(1, c));
            x.steps(2);
            check.same("by " + c + ": sharing(0, 1)", x.sharing(0, 1), c < 0 ? 1 : 2);
            check.same("by " + c + ": frames()", x.frames(), c < 0 ? 3 : 2);
        }
    }

    /** A page of a child that shrank has zeros from its break on, and the parent's page has its words still. */
    private static void zerosFromTheBreakOn() {
        check.section("op 9, zeros");
        for (int next = 8; next <= 16; next++) {
            BranchingKernel x = new BranchingKernel(12, 20);
            for (int i = 0; i < 64; i++) {
                x.stage(i, 700 + i);
            }
            Words.loadAll(x, 24, Words.fork(3), Words.sbrk(1, next - 24), Words.sbrk(1, 24 - next));
            x.steps(3);
            for (int i = 8; i < 24; i++) {
                check.same("to " + next + ": peek(0, " + i + ")", x.peek(0, i), i < next ? 700 + i : 0);
                check.same("to " + next + ": peek(1, " + i + ")", x.peek(1, i), 700 + i);
            }
        }
    }

    // ---- ops 10, 11

    private static void exitCodes() {
        check.section("op 10");
        int[] some = {0, -1, 1, LOWEST, HIGHEST, BranchingKernel.KILLED};
        for (int code : some) {
            for (int a = 0; a < 8; a++) {
                BranchingKernel x = new BranchingKernel(12, 20);
                x.stage(9, code);
                Words.loadAll(x, 10, Words.read(a, 0, 9), Words.exit(a));
                x.step();
                check.same("step()", x.step(), BranchingKernel.ENDED);
                check.same("state(0)", x.state(0), BranchingKernel.ZOMBIE);
                check.same("code(0)", x.code(0), code);
                check.same("frames()", x.frames(), 0);
                check.same("reap(0)", x.reap(0), code);
                check.same("state(0)", x.state(0), BranchingKernel.FREE);
            }
        }
    }

    /** Each parent, and each set of zombies among its seven children; with none of them it sleeps. */
    private static void waitTakesTheFirstZombie() {
        check.section("op 11");
        for (int parent = 0; parent < 8; parent++) {
            for (int zombies = 0; zombies < 256; zombies++) {
                if (!Scenes.has(zombies, parent)) {
                    oneWait(parent, zombies);
                }
            }
        }
    }

    private static void oneWait(int parent, int zombies) {
        BranchingKernel x = Scenes.sevenChildren(parent, Words.await(4));
        for (int p = 0; p < 8; p++) {
            if (Scenes.has(zombies, p)) {
                x.kill(p);
            }
        }
        boolean sleeps = zombies == 0;
        int taken = sleeps ? -1 : Integer.numberOfTrailingZeros(zombies);
        String what = parent + " with the zombies " + zombies + ": ";
        check.same(what + "step()", x.step(), sleeps ? BranchingKernel.SLEPT : BranchingKernel.RAN);
        check.same(what + "its state", x.state(parent), sleeps ? BranchingKernel.WAITING : BranchingKernel.READY);
        check.same(what + "a", x.register(parent, 4), sleeps ? 0 : BranchingKernel.KILLED);
        check.same(what + "its counter", x.register(parent, 8), sleeps ? 7 : 8);
        for (int p = 0; p < 8; p++) {
            if (p != parent) {
                int left = Scenes.has(zombies, p) ? BranchingKernel.ZOMBIE : BranchingKernel.READY;
                check.same(what + "state(" + p + ")", x.state(p), p == taken ? BranchingKernel.FREE : left);
                check.same(what + "parent(" + p + ")", x.parent(p), p == taken ? -1 : parent);
            }
        }
    }

    /** Never one, not one any more, and others' children alone. */
    private static void waitWithoutChildren() {
        check.section("op 11, no children");
        BranchingKernel never = Scenes.one(1, Words.await(6));
        noChildren("never one", never, 0, 6);
        BranchingKernel last = Scenes.one(3, Words.fork(1), Words.await(2), Words.await(3));
        last.step();
        last.kill(1);
        last.step();
        check.same("register(0, 2)", last.register(0, 2), BranchingKernel.KILLED);
        noChildren("the last one was taken", last, 0, 3);
        BranchingKernel others = new BranchingKernel(12, 2);
        Words.loadAll(others, 3, Words.fork(1), Words.set(2, 1));
        Words.loadAll(others, 3, Words.await(5));
        others.steps(2);
        others.kill(2);
        noChildren("another's zombie", others, 1, 5);
        check.same("state(2)", others.state(2), BranchingKernel.ZOMBIE);
        BranchingKernel orphans = Scenes.one(2, Words.await(5), Words.await(5));
        orphans.load(2);
        orphans.kill(1);
        noChildren("a zombie without parent", orphans, 0, 5);
        check.same("state(1)", orphans.state(1), BranchingKernel.ZOMBIE);
    }

    private static void noChildren(String what, BranchingKernel x, int p, int r) {
        int before = x.register(p, 8);
        check.same(what + ": step()", x.step(), BranchingKernel.RAN);
        check.same(what + ": a", x.register(p, r), -1);
        check.same(what + ": the counter", x.register(p, 8), before + 1);
        check.same(what + ": the state", x.state(p), BranchingKernel.READY);
    }

    /** It sleeps while its only child is ready or waits itself, and does the same step again then. */
    private static void waitSleeps() {
        check.section("op 11, sleep");
        BranchingKernel x = Scenes.one(6, Words.fork(1), Words.jumpIfNotZero(1, 4), Words.fork(2), Words.await(3), Words.await(4),
                Words.exit(4));
        check.same("steps(2)", x.steps(2), 2);
        check.same("a ready child", x.step(), BranchingKernel.SLEPT);
        check.same("register(0, 8)", x.register(0, 8), 4);
        check.same("register(0, 4)", x.register(0, 4), 0);
        check.same("steps(2)", x.steps(2), 2);
        check.same("the child sleeps too", x.step(), BranchingKernel.SLEPT);
        check.same("state(0)", x.state(0), BranchingKernel.WAITING);
        check.same("state(1)", x.state(1), BranchingKernel.WAITING);
        x.kill(1);
        check.same("state(0)", x.state(0), BranchingKernel.READY);
        check.same("register(0, 8)", x.register(0, 8), 4);
        x.kill(2);
        check.same("step()", x.step(), BranchingKernel.RAN);
        check.same("register(0, 4)", x.register(0, 4), BranchingKernel.KILLED);
        check.same("register(0, 8)", x.register(0, 8), 5);
    }

    /** Each parent and each only child; all others are zombies without parent. */
    private static void waitSleepsForEachOnlyChild() {
        check.section("op 11, an only child");
        for (int parent = 0; parent < 8; parent++) {
            for (int child = 0; child < 8; child++) {
                if (child != parent) {
                    oneOnlyChild(parent, child);
                }
            }
        }
    }

    private static void oneOnlyChild(int parent, int child) {
        String what = parent + " with the child " + child + ": ";
        BranchingKernel x = new BranchingKernel(12, 20);
        Words.stageAll(x, Words.fork(1), Words.await(2));
        for (int p = 0; p < 8; p++) {
            x.load(2);
        }
        for (int p = 0; p < 8; p++) {
            if (p != parent) {
                x.kill(p);
            }
        }
        x.reap(child);
        check.same(what + "step()", x.step(), BranchingKernel.FORKED);
        check.same(what + "its number", x.register(parent, 1), child);
        check.same(what + "step()", x.step(), BranchingKernel.SLEPT);
        x.kill(child);
        check.same(what + "state of the parent", x.state(parent), BranchingKernel.READY);
        check.same(what + "step()", x.step(), BranchingKernel.RAN);
        check.same(what + "its code", x.register(parent, 2), BranchingKernel.KILLED);
        check.same(what + "its state", x.state(child), BranchingKernel.FREE);
    }

    // ---- ops 12 to 15

    /** As the first, a middle and the last step of a row, for each quantum. */
    private static void endOfARow() {
        check.section("op 12");
        for (int quantum = 1; quantum <= 20; quantum++) {
            for (int at = 1; at <= quantum; at++) {
                BranchingKernel x = new BranchingKernel(12, quantum);
                for (int i = 0; i < 30; i++) {
                    x.stage(i, i == at - 1 ? Words.word(12, 7, 7, -1) : Words.add(1, 0, 1));
                }
                x.load(30);
                x.load(30);
                String what = "quantum " + quantum + ", step " + at + ": ";
                x.steps(at - 1);
                check.same(what + "running() before", x.running(), at == 1 ? -1 : 0);
                check.same(what + "step()", x.step(), BranchingKernel.RAN);
                check.same(what + "running()", x.running(), -1);
                check.same(what + "register(0, 1)", x.register(0, 1), at - 1);
                check.same(what + "register(0, 7)", x.register(0, 7), 0);
                check.same(what + "register(0, 8)", x.register(0, 8), at);
                x.step();
                check.same(what + "register(1, 8)", x.register(1, 8), 1);
            }
        }
    }

    private static void ownNumbers() {
        check.section("op 13");
        BranchingKernel x = new BranchingKernel(12, 1);
        Words.stageAll(x, Words.set(5, 99), Words.word(13, 5, 3, -1));
        for (int p = 0; p < 8; p++) {
            x.load(2);
        }
        x.steps(16);
        for (int p = 0; p < 8; p++) {
            check.same("register(" + p + ", 5)", x.register(p, 5), p);
        }
    }

    private static void lastOpAndIllegalOps() {
        check.section("ops 13, 14, 15");
        int[] parts = {0, 1, -1, 63, LOWEST >> 4, HIGHEST >> 4};
        for (int rest : parts) {
            int high = rest << 4;
            BranchingKernel x = Scenes.one(8, high | 13);
            check.same("word " + (high | 13), x.step(), BranchingKernel.RAN);
            for (int op = 14; op <= 15; op++) {
                BranchingKernel y = Scenes.one(8, high | op);
                check.same("word " + (high | op), y.step(), BranchingKernel.ENDED);
                check.same("state(0)", y.state(0), BranchingKernel.ZOMBIE);
                check.same("code(0)", y.code(0), BranchingKernel.ILLEGAL);
                check.same("frames()", y.frames(), 0);
            }
        }
    }
}
