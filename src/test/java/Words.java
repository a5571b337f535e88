/** Writes the words of programs, and puts them into the image. */
final class Words {
    private Words() {
    }

    static int word(int op, int a, int b, int c) {
        return op | a << 4 | b << 7 | c << 10;
    }

    static int set(int a, int c) {
        return word(0, a, 0, c);
    }

    static int add(int a, int b, int c) {
        return word(1, a, b, c);
    }

    static int subtract(int a, int b) {
        return word(2, a, b, 0);
    }

    static int read(int a, int b, int c) {
        return word(3, a, b, c);
    }

    static int write(int a, int b, int c) {
        return word(4, a, b, c);
    }

    static int jumpIfNotZero(int a, int c) {
        return word(5, a, 0, c);
    }

    static int jumpIfLess(int a, int b, int c) {
        return word(6, a, b, c);
    }

    static int print(int a) {
        return word(7, a, 0, 0);
    }

    static int fork(int a) {
        return word(8, a, 0, 0);
    }

    static int sbrk(int a, int c) {
        return word(9, a, 0, c);
    }

    static int exit(int a) {
        return word(10, a, 0, 0);
    }

    static int await(int a) {
        return word(11, a, 0, 0);
    }

    static int endRow() {
        return word(12, 0, 0, 0);
    }

    static int self(int a) {
        return word(13, a, 0, 0);
    }

    static void stageAll(BranchingKernel x, int... words) {
        for (int i = 0; i < words.length; i++) {
            x.stage(i, words[i]);
        }
    }

    /** Stages the words and loads a process with this break. */
    static int loadAll(BranchingKernel x, int length, int... words) {
        stageAll(x, words);
        return x.load(length);
    }
}
