import java.util.Random;

/** Many runs of drawn calls, the same for every start of the test, answered as PlainModel answers them. */
public final class ModelTest {
    private static final int RUNS = 6000;
    private static final int CALLS = 512;
    private static final Check check = new Check();
    private static final int[] seenSteps = new int[6];
    private static final int[] seenCodes = new int[4];

    public static void main(String[] args) {
        for (int run = 0; run < RUNS && !check.anyWrong(); run++) {
            check.section("run " + run);
            oneRun(new Random(run));
        }
        everyCaseWasDrawn();
        check.finish();
    }

    private static void oneRun(Random random) {
        int frames = random.nextInt(8) == 0 ? random.nextInt(40) - 2 : 2 + random.nextInt(14);
        int quantum = random.nextInt(8) == 0 ? random.nextInt(26) - 2 : 1 + random.nextInt(6);
        BranchingKernel x = new BranchingKernel(frames, quantum);
        PlainModel m = new PlainModel(frames, quantum);
        int calls = 0;
        for (int i = 0; i < 64; i++, calls++) {
            int w = drawWord(random);
            check.same("stage(" + i + ", " + w + ")", x.stage(i, w), m.stage(i, w));
        }
        for (; calls < CALLS && !check.anyWrong(); calls++) {
            oneCall(random, x, m);
        }
    }

    /** Ops that keep a program going are drawn more often than those that end it. */
    private static int drawWord(Random random) {
        int[] often = {0, 1, 1, 2, 3, 3, 4, 4, 4, 5, 6, 7, 8, 8, 8, 9, 9, 10, 11, 11, 12, 13};
        int op = random.nextInt(40) == 0 ? random.nextInt(16) : often[random.nextInt(often.length)];
        int a = random.nextInt(8);
        int b = random.nextInt(8);
        int c = random.nextInt(64);
        if (op == 0 || op == 1) {
            c = random.nextInt(12) - 3;
        } else if (op == 9) {
            c = random.nextInt(48) - 20;
        }
        if (random.nextInt(60) == 0) {
            return random.nextInt();
        }
        return Words.word(op, a, b, c);
    }

    private static void oneCall(Random random, BranchingKernel x, PlainModel m) {
        int p = random.nextInt(30) == 0 ? random.nextInt(12) - 2 : random.nextInt(8);
        switch (random.nextInt(24)) {
            case 0, 1, 2, 3, 4, 5 -> oneStep(x, m);
            case 6 -> {
                int n = random.nextInt(10) == 0 ? random.nextInt(60) - 4 : random.nextInt(12);
                check.same("steps(" + n + ")", x.steps(n), m.steps(n));
            }
            case 7, 8 -> {
                int length = random.nextInt(10) == 0 ? random.nextInt(70) - 2 : 1 + random.nextInt(40);
                check.same("load(" + length + ")", x.load(length), m.load(length));
            }
            case 9 -> {
                int i = random.nextInt(68) - 2;
                int w = drawWord(random);
                check.same("stage(" + i + ", " + w + ")", x.stage(i, w), m.stage(i, w));
            }
            case 10 -> {
                if (random.nextInt(3) == 0) {
                    check.same("kill(" + p + ")", x.kill(p), m.kill(p));
                }
            }
            case 11, 12 -> check.same("reap(" + p + ")", x.reap(p), m.reap(p));
            default -> oneLook(random, p, x, m);
        }
    }

    private static void oneStep(BranchingKernel x, PlainModel m) {
        int did = x.step();
        check.same("step()", did, m.step());
        if (did >= 0 && did < seenSteps.length) {
            seenSteps[did]++;
        }
    }

    private static void oneLook(Random random, int p, BranchingKernel x, PlainModel m) {
        int k = random.nextInt(12) - 1;
        int address = random.nextInt(68) - 2;
        int latest = random.nextInt(36) - 2;
        switch (random.nextInt(11)) {
            case 0 -> check.same("state(" + p + ")", x.state(p), m.state(p));
            case 1 -> check.same("parent(" + p + ")", x.parent(p), m.parent(p));
            case 2 -> oneCode(p, x, m);
            case 3 -> check.same("running()", x.running(), m.running());
            case 4, 5 -> check.same("register(" + p + ", " + k + ")", x.register(p, k), m.register(p, k));
            case 6 -> check.same("peek(" + p + ", " + address + ")", x.peek(p, address), m.peek(p, address));
            case 7 -> check.same("sharing(" + p + ", " + k + ")", x.sharing(p, k), m.sharing(p, k));
            case 8 -> check.same("frames()", x.frames(), m.frames());
            case 9 -> check.same("printed()", x.printed(), m.printed());
            default -> check.same("print(" + latest + ")", x.print(latest), m.print(latest));
        }
    }

    private static void oneCode(int p, BranchingKernel x, PlainModel m) {
        int code = x.code(p);
        check.same("code(" + p + ")", code, m.code(p));
        if (code <= BranchingKernel.OUTSIDE && code >= BranchingKernel.KILLED) {
            seenCodes[BranchingKernel.OUTSIDE - code]++;
        }
    }

    /** Drawn calls that never come to a case would say nothing of it. */
    private static void everyCaseWasDrawn() {
        check.section("what was drawn");
        for (int did = 0; did < seenSteps.length; did++) {
            check.same("enough steps that did " + did, seenSteps[did] > 500, true);
        }
        for (int k = 0; k < seenCodes.length; k++) {
            check.same("enough ends with the code " + (BranchingKernel.OUTSIDE - k), seenCodes[k] > 100, true);
        }
    }
}
