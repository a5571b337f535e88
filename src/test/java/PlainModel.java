import java.util.ArrayList;
import java.util.Arrays;
import java.util.Collections;
import java.util.IdentityHashMap;
import java.util.List;
import java.util.Set;

/**
 * The document told a second time, with nothing kept that can be counted: a class of pages is an array of
 * words that several processes hold, and frames, sharing and children are looked for each time.
 */
final class PlainModel {
    private static final class Life {
        int state;
        Integer parent;
        int code;
        int[] registers;
        int counter;
        int end;
        int[][] pages = new int[8][];
    }

    /** Ends the step of a process. */
    private static final class Fault extends Exception {
        private static final long serialVersionUID = 1L;
        final int code;

        Fault(int code) {
            super(null, null, false, false);
            this.code = code;
        }
    }

    private final int frameCount;
    private final int quantum;
    private final int[] image = new int[64];
    private final Life[] lives = new Life[8];
    private final List<Integer> prints = new ArrayList<>();
    private Integer runs = null;
    private int row = 0;

    PlainModel(int frames, int quantum) {
        this.frameCount = frames < 2 || frames > 32 ? 12 : frames;
        this.quantum = quantum < 1 || quantum > 20 ? 3 : quantum;
    }

    boolean stage(int i, int w) {
        if (i < 0 || i > 63) {
            return false;
        }
        image[i] = w;
        return true;
    }

    int load(int length) {
        if (length < 1 || length > 64) {
            return -16;
        }
        int p = 0;
        while (p < 8 && lives[p] != null) {
            p++;
        }
        if (p == 8) {
            return -15;
        }
        int[] words = new int[64];
        System.arraycopy(image, 0, words, 0, length);
        Life life = new Life();
        life.state = 1;
        life.registers = new int[8];
        life.end = length;
        for (int i = 0; i * 8 < length; i++) {
            life.pages[i] = Arrays.copyOfRange(words, i * 8, i * 8 + 8);
        }
        lives[p] = life;
        if (frames() > frameCount) {
            lives[p] = null;
            return -13;
        }
        return p;
    }

    int steps(int n) {
        if (n < 0 || n > 50) {
            return -1;
        }
        int done = 0;
        while (done < n && step() != 0) {
            done++;
        }
        return done;
    }

    int step() {
        if (running() == -1) {
            runs = nextOne();
            row = 0;
        }
        if (runs == null) {
            return 0;
        }
        row++;
        int p = runs;
        try {
            return act(p, lives[p]);
        } catch (Fault fault) {
            end(p, fault.code);
            return 5;
        }
    }

    private Integer nextOne() {
        List<Integer> order = new ArrayList<>();
        for (int p = 0; p < 8; p++) {
            order.add(p);
        }
        if (runs != null) {
            Collections.rotate(order, -(runs + 1));
        }
        for (int p : order) {
            if (state(p) == 1) {
                return p;
            }
        }
        return null;
    }

    private int act(int p, Life me) throws Fault {
        int w = readWord(me, me.counter);
        me.counter++;
        int a = (w >> 4) & 7;
        int b = (w >> 7) & 7;
        int c = w >> 10;
        int[] r = me.registers;
        switch (w & 15) {
            case 0 -> r[a] = c;
            case 1 -> r[a] += r[b] + c;
            case 2 -> r[a] -= r[b];
            case 3 -> r[a] = readWord(me, (long) r[b] + c);
            case 4 -> writeWord(me, (long) r[b] + c, r[a]);
            case 5 -> me.counter = r[a] != 0 ? c : me.counter;
            case 6 -> me.counter = r[a] < r[b] ? c : me.counter;
            case 7 -> {
                prints.add(0, r[a]);
                return 2;
            }
            case 8 -> {
                return forkAs(p, me, a);
            }
            case 9 -> moveBreak(me, a, c);
            case 10 -> throw new Fault(r[a]);
            case 11 -> {
                return awaitChild(p, me, a);
            }
            case 12 -> row = quantum;
            case 13 -> r[a] = p;
            default -> throw new Fault(-12);
        }
        return 1;
    }

    private int forkAs(int p, Life me, int a) {
        for (int q = 0; q < 8; q++) {
            if (lives[q] == null) {
                Life child = new Life();
                child.state = 1;
                child.parent = p;
                child.registers = me.registers.clone();
                child.registers[a] = 0;
                child.counter = me.counter;
                child.end = me.end;
                child.pages = me.pages.clone();
                lives[q] = child;
                me.registers[a] = q;
                return 3;
            }
        }
        me.registers[a] = -1;
        return 1;
    }

    private void moveBreak(Life me, int a, int c) throws Fault {
        int old = me.end;
        if (old + c < 0 || old + c > 64) {
            me.registers[a] = -1;
            return;
        }
        me.registers[a] = old;
        me.end = old + c;
        for (int i = 0; i < 8; i++) {
            if (i * 8 >= me.end) {
                me.pages[i] = null;
            }
        }
        if (me.end < old) {
            int[] page = me.pages[me.end / 8];
            if (page != null) {
                makeAlone(me, me.end / 8);
                for (int k = me.end % 8; k < 8; k++) {
                    me.pages[me.end / 8][k] = 0;
                }
            }
        }
    }

    private int awaitChild(int p, Life me, int a) {
        boolean any = false;
        for (int q = 0; q < 8; q++) {
            if (lives[q] != null && lives[q].parent != null && lives[q].parent == p) {
                any = true;
                if (lives[q].state == 3) {
                    me.registers[a] = lives[q].code;
                    lives[q] = null;
                    return 1;
                }
            }
        }
        if (any) {
            me.state = 2;
            me.counter--;
            return 4;
        }
        me.registers[a] = -1;
        return 1;
    }

    private void end(int p, int code) {
        Life me = lives[p];
        me.state = 3;
        me.code = code;
        me.pages = new int[8][];
        for (Life life : lives) {
            if (life != null && life.parent != null && life.parent == p) {
                life.parent = null;
            }
        }
        if (me.parent != null && lives[me.parent].state == 2) {
            lives[me.parent].state = 1;
        }
    }

    private int readWord(Life me, long address) throws Fault {
        if (address < 0 || address >= me.end) {
            throw new Fault(-11);
        }
        int i = (int) address / 8;
        if (me.pages[i] == null) {
            me.pages[i] = new int[8];
            if (frames() > frameCount) {
                throw new Fault(-13);
            }
        }
        return me.pages[i][(int) address % 8];
    }

    private void writeWord(Life me, long address, int w) throws Fault {
        if (address < 0 || address >= me.end) {
            throw new Fault(-11);
        }
        makeAlone(me, (int) address / 8);
        me.pages[(int) address / 8][(int) address % 8] = w;
    }

    /** A copy for a page that was alone already takes its words' place, and changes nothing that can be seen. */
    private void makeAlone(Life me, int i) throws Fault {
        me.pages[i] = me.pages[i] == null ? new int[8] : me.pages[i].clone();
        if (frames() > frameCount) {
            throw new Fault(-13);
        }
    }

    private boolean isLive(int p) {
        return state(p) == 1 || state(p) == 2;
    }

    boolean kill(int p) {
        if (!isLive(p)) {
            return false;
        }
        end(p, -14);
        return true;
    }

    int reap(int p) {
        if (state(p) != 3 || lives[p].parent != null) {
            return -1;
        }
        int code = lives[p].code;
        lives[p] = null;
        return code;
    }

    int state(int p) {
        return p < 0 || p > 7 ? -1 : lives[p] == null ? 0 : lives[p].state;
    }

    int parent(int p) {
        return p < 0 || p > 7 || lives[p] == null || lives[p].parent == null ? -1 : lives[p].parent;
    }

    int code(int p) {
        return state(p) == 3 ? lives[p].code : 0;
    }

    int running() {
        return runs != null && state(runs) == 1 && row < quantum ? runs : -1;
    }

    int register(int p, int r) {
        if (!isLive(p) || r < 0 || r > 9) {
            return 0;
        }
        return r == 9 ? lives[p].end : r == 8 ? lives[p].counter : lives[p].registers[r];
    }

    int peek(int p, int address) {
        if (!isLive(p) || address < 0 || address >= lives[p].end || lives[p].pages[address / 8] == null) {
            return 0;
        }
        return lives[p].pages[address / 8][address % 8];
    }

    int sharing(int p, int i) {
        if (!isLive(p) || i < 0 || i > 7 || lives[p].pages[i] == null) {
            return 0;
        }
        int count = 0;
        for (Life life : lives) {
            for (int k = 0; life != null && k < 8; k++) {
                count += life.pages[k] == lives[p].pages[i] ? 1 : 0;
            }
        }
        return count;
    }

    int frames() {
        Set<int[]> classes = Collections.newSetFromMap(new IdentityHashMap<>());
        for (Life life : lives) {
            for (int k = 0; life != null && k < 8; k++) {
                if (life.pages[k] != null) {
                    classes.add(life.pages[k]);
                }
            }
        }
        return classes.size();
    }

    int printed() {
        return prints.size();
    }

    int print(int k) {
        return k < 0 || k > 31 || k >= prints.size() ? 0 : prints.get(k);
    }
}
