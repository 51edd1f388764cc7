import java.util.Arrays;

/** The times at which instructions pass through the five stages F, D, X, M and W. */
public final class StageClock {
    private static final int LIMIT = 200;
    private static final int MOST_T = 12;
    private static final int MOST_WAIT = 8;
    private static final int LAST_REGISTER = 15;
    private static final int NONE = -1;

    // The numbers by which when() and in() name the times, and the rows of times.
    private static final int F = 0;
    private static final int D = 1;
    private static final int X = 2;
    private static final int M = 3;
    private static final int W = 4;
    private static final int XE = 5;
    private static final int ME = 6;
    private static final int KINDS = 7;

    private final int[] tOf;
    private final int[] getsOf;
    private final int[] readsOf;
    private final int[] lateOf;
    private final boolean[] loadOf;
    private final int[] waitOf;
    private final boolean[] wrongOf;
    private final int[][] times;
    // Only used while times are worked out: per register the latest instruction that gets it.
    private final int[] latest;
    private int size;

    public StageClock() {
        tOf = new int[LIMIT];
        getsOf = new int[LIMIT];
        readsOf = new int[LIMIT];
        lateOf = new int[LIMIT];
        loadOf = new boolean[LIMIT];
        waitOf = new int[LIMIT];
        wrongOf = new boolean[LIMIT];
        times = new int[KINDS][LIMIT];
        latest = new int[LAST_REGISTER + 1];
        size = 0;
    }

    public int add(int t, int gets, int reads, int late, boolean load, int wait, boolean wrong)
            throws IllegalArgumentException, IllegalStateException {
        requireFitting(t, gets, late, wait);
        if (size >= LIMIT) {
            throw new IllegalStateException("there are 200 instructions");
        }
        int k = size;
        size = size + 1;
        setRegisters(k, gets, reads, late);
        setPace(k, t, load, wait, wrong);
        workOutFrom(k);
        return k;
    }

    public void change(int k, int t, int gets, int reads, int late, boolean load, int wait, boolean wrong)
            throws IllegalArgumentException, IndexOutOfBoundsException {
        requireFitting(t, gets, late, wait);
        requireInstruction(k);
        setRegisters(k, gets, reads, late);
        setPace(k, t, load, wait, wrong);
        workOutFrom(k);
    }

    public int cut(int n) throws IllegalArgumentException {
        if (n < 0 || n > size) {
            throw new IllegalArgumentException("there are not so many instructions");
        }
        int before = size;
        // No time depends on a later instruction, so those that stay keep theirs.
        size = n;
        return before;
    }

    public int when(int k, int what) throws IllegalArgumentException, IndexOutOfBoundsException {
        if (what < F || what > ME) {
            throw new IllegalArgumentException("there is no such time");
        }
        requireInstruction(k);
        return times[what][k];
    }

    public int in(int stage, int cycle) throws IllegalArgumentException {
        if (stage < F || stage > W) {
            throw new IllegalArgumentException("there is no such stage");
        }
        for (int i = 0; i < size; i++) {
            if (times[stage][i] <= cycle && cycle <= lastCycleIn(stage, i)) {
                return i;
            }
        }
        return NONE;
    }

    public int held(int k) throws IndexOutOfBoundsException {
        requireInstruction(k);
        return times[X][k] - (times[D][k] + 1);
    }

    public int giver(int k, int register) throws IllegalArgumentException, IndexOutOfBoundsException {
        if (register < 1 || register > LAST_REGISTER) {
            throw new IllegalArgumentException("there is no such register");
        }
        requireInstruction(k);
        for (int i = k - 1; i >= 0; i--) {
            if (getsOf[i] == register) {
                return i;
            }
        }
        return NONE;
    }

    public int count(int what) throws IllegalArgumentException {
        switch (what) {
            case 0:
                return size;
            case 1:
                return lastW();
            case 2:
                // Each instruction is in W for one cycle, and no two of them in the same one.
                return lastW() - size;
            case 3:
                return countWrong();
            default:
                throw new IllegalArgumentException("there is no such count");
        }
    }

    private void requireFitting(int t, int gets, int late, int wait) {
        if (t < 1 || t > MOST_T || wait < 0 || wait > MOST_WAIT) {
            throw new IllegalArgumentException("t is not 1 to 12, or wait is not 0 to 8");
        }
        if (gets < 0 || gets > LAST_REGISTER || late < 0 || late > LAST_REGISTER) {
            throw new IllegalArgumentException("gets or late is not 0 to 15");
        }
    }

    private void requireInstruction(int k) {
        if (k < 0 || k >= size) {
            throw new IndexOutOfBoundsException("there is no such instruction");
        }
    }

    private void setRegisters(int k, int gets, int reads, int late) {
        getsOf[k] = gets;
        readsOf[k] = reads;
        lateOf[k] = late;
    }

    private void setPace(int k, int t, boolean load, int wait, boolean wrong) {
        tOf[k] = t;
        loadOf[k] = load;
        waitOf[k] = wait;
        wrongOf[k] = wrong;
    }

    /** Times before first still hold, since none of them depends on a later instruction. */
    private void workOutFrom(int first) {
        Arrays.fill(latest, NONE);
        for (int i = 0; i < first; i++) {
            noteGiver(i);
        }
        for (int i = first; i < size; i++) {
            workOut(i);
            noteGiver(i);
        }
    }

    /** Register 0 means none: it never has a giver, so that late 0 waits for nothing. */
    private void noteGiver(int i) {
        if (getsOf[i] != 0) {
            latest[getsOf[i]] = i;
        }
    }

    private void workOut(int i) {
        times[F][i] = firstCycleInF(i);
        times[D][i] = Math.max(times[F][i] + 1, timeOfPrevious(X, i));
        times[X][i] = Math.max(Math.max(times[D][i] + 1, timeOfPrevious(M, i)), readsReady(i));
        times[XE][i] = times[X][i] + tOf[i] - 1;
        times[M][i] = Math.max(Math.max(times[XE][i] + 1, timeOfPrevious(W, i)), afterReady(lateOf[i]));
        times[ME][i] = times[M][i] + waitOf[i];
        times[W][i] = times[ME][i] + 1;
    }

    private int firstCycleInF(int i) {
        if (i == 0) {
            return 1;
        }
        return wrongOf[i - 1] ? times[XE][i - 1] + 1 : times[D][i - 1];
    }

    /** 0 without a previous one: cycles begin at 1, so that 0 holds nothing back. */
    private int timeOfPrevious(int what, int i) {
        return i == 0 ? 0 : times[what][i - 1];
    }

    private int readsReady(int i) {
        int greatest = 0;
        for (int register = 1; register <= LAST_REGISTER; register++) {
            if ((readsOf[i] >> register & 1) == 1) {
                greatest = Math.max(greatest, afterReady(register));
            }
        }
        return greatest;
    }

    /** The cycle after READY of the register's giver; 0, which holds nothing back, without one. */
    private int afterReady(int register) {
        int giver = latest[register];
        if (giver == NONE) {
            return 0;
        }
        return (loadOf[giver] ? times[ME][giver] : times[XE][giver]) + 1;
    }

    private int lastCycleIn(int stage, int i) {
        return stage == W ? times[W][i] : times[stage + 1][i] - 1;
    }

    private int lastW() {
        return size == 0 ? 0 : times[W][size - 1];
    }

    private int countWrong() {
        int found = 0;
        for (int i = 0; i < size; i++) {
            if (wrongOf[i]) {
                found++;
            }
        }
        return found;
    }
}
