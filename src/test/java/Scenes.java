/** Kernels that many tests begin with. */
final class Scenes {
    static final int LOWEST = Integer.MIN_VALUE;
    static final int HIGHEST = Integer.MAX_VALUE;
    /** The first numbers outside of 0 .. 7, and the last ones that there are. */
    static final int[] NO_NUMBERS = {-1, 8, LOWEST, HIGHEST};
    /** Frames that a family has in use. */
    static final int FAMILY_FRAMES = 6;

    private Scenes() {
    }

    /**
     * Something of everything: 0 waits for 1; 1 is ready and the parent of 2, a zombie; 3 is a zombie without parent;
     * 4 runs and has had one step of its row of five; 5 .. 7 are free. Pages are shared, own and untouched; one word is printed.
     */
    static BranchingKernel family(int frames) {
        BranchingKernel x = new BranchingKernel(frames, 5);
        for (int i = 0; i < 64; i++) {
            x.stage(i, 9000 + i);
        }
        Words.stageAll(x, Words.sbrk(7, 20), Words.fork(1), Words.jumpIfNotZero(1, 8),
                Words.fork(2), Words.add(3, 0, 7), Words.print(3), Words.write(3, 0, 17), Words.jumpIfNotZero(3, 4),
                Words.await(4), Words.exit(4));
        x.load(20);
        x.steps(9);
        x.kill(2);
        x.load(9);
        x.kill(3);
        x.load(12);
        x.step();
        return x;
    }

    /** A kernel without any process. */
    static BranchingKernel empty() {
        return new BranchingKernel(12, 3);
    }

    /** A kernel with one process that has these words and this break; its rows have twenty steps. */
    static BranchingKernel one(int length, int... words) {
        BranchingKernel x = new BranchingKernel(12, 20);
        Words.loadAll(x, length, words);
        return x;
    }

    /** Eight processes of one page each, whose register 1 counts their first seven steps. */
    static BranchingKernel eightThatCount(int quantum) {
        BranchingKernel x = new BranchingKernel(12, quantum);
        for (int i = 0; i < 7; i++) {
            x.stage(i, Words.add(1, 0, 1));
        }
        x.stage(7, Words.jumpIfNotZero(1, 0));
        for (int p = 0; p < 8; p++) {
            x.load(8);
        }
        return x;
    }

    /** Process 0 and its seven children, all of them ready; 0 has this word to do next. */
    static BranchingKernel sevenChildren(int nextWord) {
        return sevenChildren(0, nextWord);
    }

    /** The same with another number for the parent: the children have all the others. */
    static BranchingKernel sevenChildren(int parent, int nextWord) {
        BranchingKernel x = new BranchingKernel(12, 20);
        for (int i = 0; i < 7; i++) {
            x.stage(i, Words.fork(1));
        }
        x.stage(7, nextWord);
        for (int p = 0; p <= parent; p++) {
            x.load(8);
        }
        for (int p = 0; p < parent; p++) {
            x.kill(p);
            x.reap(p);
        }
        x.steps(7);
        return x;
    }

    /** Loads processes until so many frames are in use; each takes at most eight. */
    static void fillFrames(BranchingKernel x, int used) {
        for (int k = 0; k < 8 && x.frames() < used; k++) {
            x.load(8 * Math.min(8, used - x.frames()));
        }
    }

    static boolean has(int set, int p) {
        return (set >> p & 1) == 1;
    }

    static int pagesOf(int length) {
        return length / 8 + (length % 8 == 0 ? 0 : 1);
    }
}
