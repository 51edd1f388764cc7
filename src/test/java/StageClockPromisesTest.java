import java.util.function.IntSupplier;

/** Each promise of the document by runs worked out by hand: ordinary inputs, edges, wrong inputs. */
public final class StageClockPromisesTest {
    private static final String ARGUMENT = "IllegalArgumentException";
    private static final String STATE = "IllegalStateException";
    private static final String INDEX = "IndexOutOfBoundsException";
    private static final int[] FAR = {Integer.MIN_VALUE, Integer.MAX_VALUE};

    private static int wrong = 0;

    public static void main(String[] args) {
        promise1NewObject();
        promise2AddAnswersNumbersUpTo200();
        promise2AddRefusesWrongArguments();
        promise2AddTakesTheEdges();
        promise3ChangeMovesLaterOnes();
        promise3ChangeChangesEveryPart();
        promise3ChangeRefuses();
        promise4Cut();
        promise4CutLeavesNoTrace();
        promise5WhenOfOne();
        promise5WhenStagesAreTaken();
        promise5WhenReads();
        promise5WhenReadsBits();
        promise5WhenLate();
        promise5WhenWrong();
        promise5WhenRefuses();
        promise6In();
        promise6InRefuses();
        promise7Held();
        promise8Giver();
        promise8GiverRefuses();
        promise9Count();
        promise9CountRefuses();
        System.out.println(wrong == 0 ? "all promises hold" : wrong + " answers are not as due");
        if (wrong != 0) {
            System.exit(1);
        }
    }

    private static void due(String call, Object got, Object want) {
        if (!got.equals(want)) {
            wrong++;
            System.out.println(call + ": " + got + ", due is " + want);
        }
    }

    private static void refused(String call, String want, IntSupplier run) {
        String got = "answers";
        try {
            got = got + " " + run.getAsInt();
        } catch (RuntimeException e) {
            got = e.getClass().getSimpleName();
        }
        due(call, got, want);
    }

    private static int change(StageClock c, int k, int t, int gets, int late, int wait) {
        c.change(k, t, gets, 0, late, false, wait, false);
        return 0;
    }

    private static int plain(StageClock c, int t) {
        return c.add(t, 0, 0, 0, false, 0, false);
    }

    private static int load(StageClock c, int gets, int wait) {
        return c.add(1, gets, 0, 0, true, wait, false);
    }

    private static int reader(StageClock c, int reads) {
        return c.add(1, 0, reads, 0, false, 0, false);
    }

    /** The times in the order of what: F, D, X, M, W, XE, ME. */
    private static void times(String run, StageClock c, int k, int... want) {
        for (int what = 0; what < want.length; what++) {
            due(run + ": when(" + k + ", " + what + ")", c.when(k, what), want[what]);
        }
    }

    private static void counts(String run, StageClock c, int... want) {
        for (int what = 0; what < want.length; what++) {
            due(run + ": count(" + what + ")", c.count(what), want[what]);
        }
    }

    private static void promise1NewObject() {
        StageClock c = new StageClock();
        counts("new", c, 0, 0, 0, 0);
        for (int stage = 0; stage <= 4; stage++) {
            due("new: in(" + stage + ", 0)", c.in(stage, 0), -1);
            due("new: in(" + stage + ", 1)", c.in(stage, 1), -1);
        }
        refused("new: when(0, 0)", INDEX, () -> c.when(0, 0));
        refused("new: held(0)", INDEX, () -> c.held(0));
        refused("new: giver(0, 1)", INDEX, () -> c.giver(0, 1));
        refused("new: change(0)", INDEX, () -> change(c, 0, 1, 0, 0, 0));
        refused("new: cut(1)", ARGUMENT, () -> c.cut(1));
        due("new: cut(0)", c.cut(0), 0);

        StageClock other = new StageClock();
        plain(other, 1);
        due("new: another object is not touched", c.count(0), 0);
    }

    private static void promise2AddAnswersNumbersUpTo200() {
        StageClock c = new StageClock();
        for (int i = 0; i < 200; i++) {
            due("add number " + i, plain(c, 1), i);
        }
        counts("200 plain ones", c, 200, 204, 4, 0);
        refused("add to 200", STATE, () -> plain(c, 1));
        refused("add to 200 with t 13", ARGUMENT, () -> plain(c, 13));
        counts("200 after a refused one", c, 200, 204, 4, 0);
        refused("when(200, 0)", INDEX, () -> c.when(200, 0));
        due("cut(199)", c.cut(199), 200);
        due("add to 199", plain(c, 1), 199);
        refused("add to 200 again", STATE, () -> plain(c, 1));
    }

    private static void promise2AddRefusesWrongArguments() {
        StageClock c = new StageClock();
        load(c, 1, 2);
        for (int t : new int[] {-1, 0, 13, FAR[0], FAR[1]}) {
            refused("add t " + t, ARGUMENT, () -> c.add(t, 1, 0, 1, true, 0, true));
        }
        for (int register : new int[] {-1, 16, FAR[0], FAR[1]}) {
            refused("add gets " + register, ARGUMENT, () -> c.add(1, register, 0, 1, true, 0, true));
            refused("add late " + register, ARGUMENT, () -> c.add(1, 1, 0, register, true, 0, true));
        }
        for (int wait : new int[] {-1, 9, FAR[0], FAR[1]}) {
            refused("add wait " + wait, ARGUMENT, () -> c.add(1, 1, 0, 1, true, wait, true));
        }
        counts("after refused adds", c, 1, 7, 6, 0);
        due("add after refused adds", reader(c, 1 << 1), 1);
        times("add after refused adds", c, 1, 2, 3, 7, 8, 9, 7, 8);
    }

    private static void promise2AddTakesTheEdges() {
        StageClock c = new StageClock();
        due("add the least", c.add(1, 0, Integer.MIN_VALUE, 0, false, 0, false), 0);
        due("add the most", c.add(12, 15, Integer.MAX_VALUE, 15, true, 8, true), 1);
        times("the least", c, 0, 1, 2, 3, 4, 5, 3, 4);
        times("the most", c, 1, 2, 3, 4, 16, 25, 15, 24);
    }

    private static void promise3ChangeMovesLaterOnes() {
        StageClock c = new StageClock();
        plain(c, 1);
        load(c, 1, 0);
        reader(c, 1 << 1);
        times("before change", c, 2, 3, 4, 6, 7, 8, 6, 7);
        c.change(1, 2, 1, 0, 0, true, 3, true);
        times("change: those before it", c, 0, 1, 2, 3, 4, 5, 3, 4);
        times("change: itself", c, 1, 2, 3, 4, 6, 10, 5, 9);
        times("change: those behind it", c, 2, 6, 7, 10, 11, 12, 10, 11);
        counts("change", c, 3, 12, 9, 1);
        c.change(1, 1, 1, 0, 0, true, 0, false);
        times("changed back", c, 2, 3, 4, 6, 7, 8, 6, 7);
        counts("changed back", c, 3, 8, 5, 0);
    }

    private static void promise3ChangeChangesEveryPart() {
        StageClock c = new StageClock();
        load(c, 1, 4);
        reader(c, 1 << 1);
        times("reads 1", c, 1, 2, 3, 9, 10, 11, 9, 10);
        c.change(1, 1, 0, 1 << 2, 0, false, 0, false);
        times("reads 2", c, 1, 2, 3, 4, 9, 10, 4, 9);
        c.change(0, 1, 2, 0, 0, true, 4, false);
        times("gets 2", c, 1, 2, 3, 9, 10, 11, 9, 10);
        due("gets 2: giver(1, 1)", c.giver(1, 1), -1);
        due("gets 2: giver(1, 2)", c.giver(1, 2), 0);
        c.change(0, 1, 2, 0, 0, false, 4, false);
        times("no load", c, 1, 2, 3, 4, 9, 10, 4, 9);
        c.change(0, 1, 2, 0, 0, false, 0, true);
        times("wrong", c, 1, 4, 5, 6, 7, 8, 6, 7);
        c.change(0, 6, 2, 0, 0, false, 0, false);
        times("t 6", c, 1, 2, 3, 9, 10, 11, 9, 10);
        c.change(1, 12, 15, -1, 15, true, 8, true);
        times("the most", c, 1, 2, 3, 9, 21, 30, 20, 29);
    }

    private static void promise3ChangeRefuses() {
        StageClock c = new StageClock();
        plain(c, 1);
        plain(c, 1);
        for (int t : new int[] {0, 13, FAR[0], FAR[1]}) {
            refused("change t " + t, ARGUMENT, () -> change(c, 0, t, 1, 1, 0));
        }
        for (int register : new int[] {-1, 16, FAR[0], FAR[1]}) {
            refused("change gets " + register, ARGUMENT, () -> change(c, 0, 2, register, 1, 1));
            refused("change late " + register, ARGUMENT, () -> change(c, 0, 2, 1, register, 1));
        }
        for (int wait : new int[] {-1, 9, FAR[0], FAR[1]}) {
            refused("change wait " + wait, ARGUMENT, () -> change(c, 0, 2, 1, 1, wait));
        }
        for (int k : new int[] {-1, 2, 199, 200, FAR[0], FAR[1]}) {
            refused("change " + k, INDEX, () -> change(c, k, 2, 1, 1, 1));
            refused("change " + k + " with t 0", ARGUMENT, () -> change(c, k, 0, 1, 1, 1));
        }
        times("after refused changes", c, 0, 1, 2, 3, 4, 5, 3, 4);
        times("after refused changes", c, 1, 2, 3, 4, 5, 6, 4, 5);
        due("after refused changes: giver(1, 1)", c.giver(1, 1), -1);
        counts("after refused changes", c, 2, 6, 4, 0);
    }

    private static void promise4Cut() {
        StageClock c = new StageClock();
        for (int i = 0; i < 4; i++) {
            c.add(1, 0, 0, 0, false, 0, i == 2);
        }
        for (int n : new int[] {-1, 5, FAR[0], FAR[1]}) {
            refused("cut(" + n + ")", ARGUMENT, () -> c.cut(n));
        }
        counts("after refused cuts", c, 4, 10, 6, 1);
        due("cut(4) of 4", c.cut(4), 4);
        counts("cut(4) of 4", c, 4, 10, 6, 1);
        due("cut(2) of 4", c.cut(2), 4);
        counts("cut(2) of 4", c, 2, 6, 4, 0);
        times("cut(2) of 4", c, 1, 2, 3, 4, 5, 6, 4, 5);
        refused("when of one cut off", INDEX, () -> c.when(2, 0));
        refused("held of one cut off", INDEX, () -> c.held(2));
        refused("giver of one cut off", INDEX, () -> c.giver(2, 1));
        refused("change of one cut off", INDEX, () -> change(c, 2, 1, 0, 0, 0));
        refused("cut(3) of 2", ARGUMENT, () -> c.cut(3));
        due("in(4, 7) after cut", c.in(4, 7), -1);
        due("cut(0) of 2", c.cut(0), 2);
        due("cut(0) of 0", c.cut(0), 0);
        counts("cut(0)", c, 0, 0, 0, 0);
    }

    private static void promise4CutLeavesNoTrace() {
        StageClock c = new StageClock();
        plain(c, 1);
        c.add(12, 3, 0, 0, true, 8, true);
        c.cut(1);
        due("add after cut", reader(c, 1 << 3), 1);
        times("add after cut", c, 1, 2, 3, 4, 5, 6, 4, 5);
        due("add after cut: giver(1, 3)", c.giver(1, 3), -1);
        due("add after cut: count(3)", c.count(3), 0);
    }

    private static void promise5WhenOfOne() {
        StageClock c = new StageClock();
        c.add(12, 1, 1 << 1, 1, true, 8, true);
        times("one alone waits for none", c, 0, 1, 2, 3, 15, 24, 14, 23);
    }

    private static void promise5WhenStagesAreTaken() {
        StageClock c = new StageClock();
        plain(c, 4);
        plain(c, 1);
        plain(c, 1);
        times("X is taken", c, 0, 1, 2, 3, 7, 8, 6, 7);
        times("X is taken", c, 1, 2, 3, 7, 8, 9, 7, 8);
        times("X is taken", c, 2, 3, 7, 8, 9, 10, 8, 9);

        StageClock e = new StageClock();
        e.add(1, 0, 0, 0, false, 3, false);
        plain(e, 1);
        plain(e, 1);
        plain(e, 1);
        times("M is taken", e, 0, 1, 2, 3, 4, 8, 3, 7);
        times("M is taken", e, 1, 2, 3, 4, 8, 9, 4, 8);
        times("M is taken", e, 2, 3, 4, 8, 9, 10, 8, 9);
        times("M is taken", e, 3, 4, 8, 9, 10, 11, 9, 10);
    }

    private static void promise5WhenReads() {
        StageClock c = new StageClock();
        load(c, 1, 2);
        reader(c, 1 << 1);
        times("reads what a load gets", c, 1, 2, 3, 7, 8, 9, 7, 8);

        StageClock e = new StageClock();
        e.add(1, 1, 0, 0, false, 2, false);
        reader(e, 1 << 1);
        times("reads what no load gets", e, 1, 2, 3, 4, 7, 8, 4, 7);

        StageClock f = new StageClock();
        f.add(1, 1, 0, 0, true, 2, false);
        f.add(1, 1, 1 << 1, 0, true, 0, false);
        f.add(1, 2, 1 << 1, 0, true, 5, false);
        f.add(1, 0, 1 << 1 | 1 << 2, 0, false, 0, false);
        times("the latest one counts", f, 1, 2, 3, 7, 8, 9, 7, 8);
        times("the latest one counts", f, 2, 3, 7, 9, 10, 16, 9, 15);
        times("the greatest counts", f, 3, 7, 9, 16, 17, 18, 16, 17);
    }

    private static void promise5WhenReadsBits() {
        for (int register = 0; register <= 15; register++) {
            for (int bit = 0; bit < 32; bit++) {
                StageClock c = new StageClock();
                load(c, register, 2);
                reader(c, 1 << bit);
                boolean waits = register == bit && register != 0;
                due("load of " + register + ", bit " + bit + " read: X", c.when(1, 2), waits ? 7 : 4);
            }
        }
    }

    /**
     * M[i] is at least W[i - 1], and that is later than READY of any one before i: so LATE never
     * makes an answer another one. It must not be taken for a register that i READS, either.
     */
    private static void promise5WhenLate() {
        StageClock c = new StageClock();
        load(c, 1, 2);
        c.add(1, 0, 0, 1, false, 0, false);
        times("late does not hold X", c, 1, 2, 3, 4, 7, 8, 4, 7);

        StageClock e = new StageClock();
        e.add(5, 1, 0, 0, true, 2, true);
        e.add(1, 0, 0, 1, false, 0, false);
        times("late long since given", e, 1, 8, 9, 10, 11, 12, 10, 11);
    }

    private static void promise5WhenWrong() {
        StageClock c = new StageClock();
        c.add(3, 0, 0, 0, false, 0, true);
        plain(c, 1);
        c.add(1, 0, 0, 0, false, 6, true);
        plain(c, 1);
        times("wrong guess", c, 0, 1, 2, 3, 6, 7, 5, 6);
        times("behind a wrong guess", c, 1, 6, 7, 8, 9, 10, 8, 9);
        times("wrong guess with wait", c, 2, 7, 8, 9, 10, 17, 9, 16);
        times("behind XE, not ME", c, 3, 10, 11, 12, 17, 18, 12, 17);
    }

    private static void promise5WhenRefuses() {
        StageClock c = new StageClock();
        plain(c, 1);
        for (int what : new int[] {-1, 7, FAR[0], FAR[1]}) {
            refused("when(0, " + what + ")", ARGUMENT, () -> c.when(0, what));
            refused("when(1, " + what + ")", ARGUMENT, () -> c.when(1, what));
        }
        for (int k : new int[] {-1, 1, 199, 200, FAR[0], FAR[1]}) {
            refused("when(" + k + ", 6)", INDEX, () -> c.when(k, 6));
        }
    }

    private static void promise6In() {
        StageClock c = new StageClock();
        plain(c, 4);
        plain(c, 1);
        plain(c, 1);
        int[][] want = {
            {-1, 0, 1, 2, 2, 2, 2, -1, -1, -1, -1, -1},
            {-1, -1, 0, 1, 1, 1, 1, 2, -1, -1, -1, -1},
            {-1, -1, -1, 0, 0, 0, 0, 1, 2, -1, -1, -1},
            {-1, -1, -1, -1, -1, -1, -1, 0, 1, 2, -1, -1},
            {-1, -1, -1, -1, -1, -1, -1, -1, 0, 1, 2, -1},
        };
        for (int stage = 0; stage <= 4; stage++) {
            for (int cycle = 0; cycle < want[stage].length; cycle++) {
                due("in(" + stage + ", " + cycle + ")", c.in(stage, cycle), want[stage][cycle]);
            }
            for (int cycle : new int[] {-1, FAR[0], FAR[1]}) {
                due("in(" + stage + ", " + cycle + ")", c.in(stage, cycle), -1);
            }
        }

        StageClock e = new StageClock();
        e.add(3, 0, 0, 0, false, 2, true);
        plain(e, 1);
        due("none in F till the guess is known", e.in(0, 5), -1);
        due("in F when the guess is known", e.in(0, 6), 1);
        due("in M while it waits", e.in(3, 8), 0);
        due("in W", e.in(4, 9), 0);
    }

    private static void promise6InRefuses() {
        StageClock c = new StageClock();
        for (int stage : new int[] {-1, 5, 6, FAR[0], FAR[1]}) {
            refused("in(" + stage + ", 1) of none", ARGUMENT, () -> c.in(stage, 1));
        }
        plain(c, 1);
        for (int stage : new int[] {-1, 5, 6, FAR[0], FAR[1]}) {
            refused("in(" + stage + ", 1)", ARGUMENT, () -> c.in(stage, 1));
        }
    }

    private static void promise7Held() {
        StageClock c = new StageClock();
        plain(c, 4);
        plain(c, 1);
        plain(c, 1);
        due("held of the first", c.held(0), 0);
        due("held by X taken", c.held(1), 3);
        due("held in F only", c.held(2), 0);
        for (int k : new int[] {-1, 3, 199, 200, FAR[0], FAR[1]}) {
            refused("held(" + k + ")", INDEX, () -> c.held(k));
        }

        StageClock e = new StageClock();
        load(e, 1, 8);
        reader(e, 1 << 1);
        due("held by a load", e.held(1), 9);
        e.change(0, 1, 1, 0, 0, true, 8, true);
        due("held by a load behind a wrong guess", e.held(1), 7);
    }

    private static void promise8Giver() {
        StageClock c = new StageClock();
        c.add(1, 1, 0, 0, false, 0, false);
        c.add(1, 15, 0, 0, true, 0, false);
        c.add(1, 1, 0, 0, false, 0, true);
        c.add(1, 0, 0, 0, false, 0, false);
        due("giver(0, 1): itself is not before it", c.giver(0, 1), -1);
        due("giver(1, 1)", c.giver(1, 1), 0);
        due("giver(1, 15)", c.giver(1, 15), -1);
        due("giver(2, 1)", c.giver(2, 1), 0);
        due("giver(2, 15)", c.giver(2, 15), 1);
        due("giver(3, 1): the latest", c.giver(3, 1), 2);
        due("giver(3, 15)", c.giver(3, 15), 1);
        due("giver(3, 2)", c.giver(3, 2), -1);
    }

    private static void promise8GiverRefuses() {
        StageClock c = new StageClock();
        c.add(1, 1, 0, 0, false, 0, false);
        for (int register : new int[] {-1, 0, 16, FAR[0], FAR[1]}) {
            refused("giver(0, " + register + ")", ARGUMENT, () -> c.giver(0, register));
            refused("giver(1, " + register + ")", ARGUMENT, () -> c.giver(1, register));
        }
        for (int k : new int[] {-1, 1, 199, 200, FAR[0], FAR[1]}) {
            refused("giver(" + k + ", 1)", INDEX, () -> c.giver(k, 1));
        }
    }

    private static void promise9Count() {
        StageClock c = new StageClock();
        c.add(1, 0, 0, 0, false, 0, false);
        counts("one", c, 1, 5, 4, 0);
        c.add(3, 0, 0, 0, false, 2, true);
        counts("two", c, 2, 10, 8, 1);
        c.add(1, 0, 0, 0, false, 0, true);
        counts("three", c, 3, 11, 8, 2);
        c.change(1, 1, 0, 0, 0, false, 0, false);
        counts("three, one changed", c, 3, 7, 4, 1);
    }

    private static void promise9CountRefuses() {
        StageClock c = new StageClock();
        for (int what : new int[] {-1, 4, FAR[0], FAR[1]}) {
            refused("count(" + what + ")", ARGUMENT, () -> c.count(what));
        }
    }
}
