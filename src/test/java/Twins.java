import java.util.function.Consumer;
import java.util.function.Supplier;

/**
 * Tells whether a call changed something: it is made on one of two kernels of the same making, and all that can be seen
 * of both, now and later, must be the same. The looks are spread over several such pairs, for an object is promised for
 * 512 calls alone.
 */
final class Twins {
    private static final int OUTPUT = 8;
    private static final int LATER_STEPS = 9;
    private static final int IMAGE = 10;
    private static final int GROUPS = 11;

    private Twins() {
    }

    static void unchanged(Check check, String call, Supplier<BranchingKernel> make, Consumer<BranchingKernel> act) {
        for (int group = 0; group < GROUPS; group++) {
            BranchingKernel called = make.get();
            act.accept(called);
            int[] got = look(called, group);
            int[] due = look(make.get(), group);
            for (int k = 0; k < due.length; k++) {
                check.same(call + " changes nothing: look " + k + " of group " + group, got[k], due[k]);
            }
        }
    }

    private static int[] look(BranchingKernel x, int group) {
        return switch (group) {
            case OUTPUT -> output(x);
            case LATER_STEPS -> laterSteps(x);
            case IMAGE -> image(x);
            default -> process(x, group);
        };
    }

    private static int[] process(BranchingKernel x, int p) {
        int[] seen = new int[85];
        int k = 0;
        seen[k++] = x.state(p);
        seen[k++] = x.parent(p);
        seen[k++] = x.code(p);
        for (int r = 0; r <= 9; r++) {
            seen[k++] = x.register(p, r);
        }
        for (int i = 0; i < 8; i++) {
            seen[k++] = x.sharing(p, i);
        }
        for (int address = 0; address < 64; address++) {
            seen[k++] = x.peek(p, address);
        }
        return seen;
    }

    private static int[] output(BranchingKernel x) {
        int[] seen = new int[35];
        for (int k = 0; k < 32; k++) {
            seen[k] = x.print(k);
        }
        seen[32] = x.printed();
        seen[33] = x.frames();
        seen[34] = x.running();
        return seen;
    }

    /** What runs and how long its row is shows in the steps to come. */
    private static int[] laterSteps(BranchingKernel x) {
        int[] seen = new int[120];
        for (int k = 0; k < 60; k++) {
            seen[2 * k] = x.running();
            seen[2 * k + 1] = x.step();
        }
        return seen;
    }

    /** The image shows in a process that is loaded when all others are gone. */
    private static int[] image(BranchingKernel x) {
        for (int p = 0; p < 8; p++) {
            x.kill(p);
        }
        for (int p = 0; p < 8; p++) {
            x.reap(p);
        }
        int[] seen = new int[65];
        seen[64] = x.load(64);
        for (int i = 0; i < 64; i++) {
            seen[i] = x.peek(0, i);
        }
        return seen;
    }
}
