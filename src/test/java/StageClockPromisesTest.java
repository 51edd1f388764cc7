/** Each promise of the document by runs worked out by hand; StageClockBoundsTest has the boundary cases. */
public final class StageClockPromisesTest {
    public static void main(String[] args) {
        promise1NewObject();
        promise2Add();
        promise3ChangeMovesLaterOnes();
        promise3ChangeChangesEveryPart();
        promise4Cut();
        promise4CutLeavesNoTrace();
        promise5WhenStagesAreTaken();
        promise5WhenReads();
        promise5WhenLate();
        promise5WhenWrong();
        promise6In();
        promise7Held();
        promise8Giver();
        promise9Count();
        Check.end("all promises hold");
    }

    private static int plain(StageClock c, int t) {
        return c.add(t, 0, 0, 0, false, 0, false);
    }

    private static int load(StageClock c, int gets, int wait) {
        return c.add(1, gets, 0, 0, true, wait, false);
    }

    private static int reader(StageClock c, int reads) {
        return c.add(1, 0, reads, 0, false, 0, false);
    }

    private static void promise1NewObject() {
        StageClock c = new StageClock();
        Check.counts("new", c, 0, 0, 0, 0);
        StageClock other = new StageClock();
        plain(other, 1);
        Check.due("new: another object is not touched", c.count(0), 0);
    }

    private static void promise2Add() {
        StageClock c = new StageClock();
        Check.due("add the first", load(c, 1, 1), 0);
        Check.due("add the second", c.add(2, 2, 1 << 1, 0, false, 0, true), 1);
        Check.due("add the third", reader(c, 1 << 2), 2);
        Check.times("add", c, 0, 1, 2, 3, 4, 6, 3, 5);
        Check.times("add", c, 1, 2, 3, 6, 8, 9, 7, 8);
        Check.times("add", c, 2, 8, 9, 10, 11, 12, 10, 11);
        Check.counts("add", c, 3, 12, 9, 1);
    }

    private static void promise3ChangeMovesLaterOnes() {
        StageClock c = new StageClock();
        plain(c, 1);
        load(c, 1, 0);
        reader(c, 1 << 1);
        Check.times("before change", c, 2, 3, 4, 6, 7, 8, 6, 7);
        c.change(1, 2, 1, 0, 0, true, 3, true);
        Check.times("change: those before it", c, 0, 1, 2, 3, 4, 5, 3, 4);
        Check.times("change: itself", c, 1, 2, 3, 4, 6, 10, 5, 9);
        Check.times("change: those behind it", c, 2, 6, 7, 10, 11, 12, 10, 11);
        Check.counts("change", c, 3, 12, 9, 1);
        c.change(1, 1, 1, 0, 0, true, 0, false);
        Check.times("changed back", c, 2, 3, 4, 6, 7, 8, 6, 7);
        Check.counts("changed back", c, 3, 8, 5, 0);
    }

    private static void promise3ChangeChangesEveryPart() {
        StageClock c = new StageClock();
        load(c, 1, 4);
        reader(c, 1 << 1);
        Check.times("reads 1", c, 1, 2, 3, 9, 10, 11, 9, 10);
        c.change(1, 1, 0, 1 << 2, 0, false, 0, false);
        Check.times("reads 2", c, 1, 2, 3, 4, 9, 10, 4, 9);
        c.change(0, 1, 2, 0, 0, true, 4, false);
        Check.times("gets 2", c, 1, 2, 3, 9, 10, 11, 9, 10);
        Check.due("gets 2: giver(1, 1)", c.giver(1, 1), -1);
        Check.due("gets 2: giver(1, 2)", c.giver(1, 2), 0);
        c.change(0, 1, 2, 0, 0, false, 4, false);
        Check.times("no load", c, 1, 2, 3, 4, 9, 10, 4, 9);
        c.change(0, 1, 2, 0, 0, false, 0, true);
        Check.times("wrong", c, 1, 4, 5, 6, 7, 8, 6, 7);
        c.change(0, 6, 2, 0, 0, false, 0, false);
        Check.times("t 6", c, 1, 2, 3, 9, 10, 11, 9, 10);
        c.change(1, 12, 15, -1, 15, true, 8, true);
        Check.times("the most", c, 1, 2, 3, 9, 21, 30, 20, 29);
    }

    private static void promise4Cut() {
        StageClock c = new StageClock();
        for (int i = 0; i < 4; i++) {
            c.add(1, 0, 0, 0, false, 0, i == 2);
        }
        Check.due("cut(4) of 4", c.cut(4), 4);
        Check.counts("cut(4) of 4", c, 4, 10, 6, 1);
        Check.due("cut(2) of 4", c.cut(2), 4);
        Check.counts("cut(2) of 4", c, 2, 6, 4, 0);
        Check.times("cut(2) of 4", c, 1, 2, 3, 4, 5, 6, 4, 5);
        Check.refused("when of one cut off", Check.INDEX, () -> c.when(2, 0));
        Check.refused("held of one cut off", Check.INDEX, () -> c.held(2));
        Check.refused("giver of one cut off", Check.INDEX, () -> c.giver(2, 1));
        Check.refused("change of one cut off", Check.INDEX, () -> Instruction.PLAIN.changeIn(c, 2));
        Check.due("in(4, 7) after cut", c.in(4, 7), -1);
        Check.due("cut(0) of 2", c.cut(0), 2);
        Check.counts("cut(0)", c, 0, 0, 0, 0);
    }

    private static void promise4CutLeavesNoTrace() {
        StageClock c = new StageClock();
        plain(c, 1);
        c.add(12, 3, 0, 0, true, 8, true);
        c.cut(1);
        Check.due("add after cut", reader(c, 1 << 3), 1);
        Check.times("add after cut", c, 1, 2, 3, 4, 5, 6, 4, 5);
        Check.due("add after cut: giver(1, 3)", c.giver(1, 3), -1);
        Check.due("add after cut: count(3)", c.count(3), 0);
    }

    private static void promise5WhenStagesAreTaken() {
        StageClock c = new StageClock();
        plain(c, 4);
        plain(c, 1);
        plain(c, 1);
        Check.times("X is taken", c, 0, 1, 2, 3, 7, 8, 6, 7);
        Check.times("X is taken", c, 1, 2, 3, 7, 8, 9, 7, 8);
        Check.times("X is taken", c, 2, 3, 7, 8, 9, 10, 8, 9);

        StageClock e = new StageClock();
        e.add(1, 0, 0, 0, false, 3, false);
        plain(e, 1);
        plain(e, 1);
        plain(e, 1);
        Check.times("M is taken", e, 0, 1, 2, 3, 4, 8, 3, 7);
        Check.times("M is taken", e, 1, 2, 3, 4, 8, 9, 4, 8);
        Check.times("M is taken", e, 2, 3, 4, 8, 9, 10, 8, 9);
        Check.times("M is taken", e, 3, 4, 8, 9, 10, 11, 9, 10);
    }

    private static void promise5WhenReads() {
        StageClock c = new StageClock();
        load(c, 1, 2);
        reader(c, 1 << 1);
        Check.times("reads what a load gets", c, 1, 2, 3, 7, 8, 9, 7, 8);

        StageClock e = new StageClock();
        e.add(1, 1, 0, 0, false, 2, false);
        reader(e, 1 << 1);
        Check.times("reads what no load gets", e, 1, 2, 3, 4, 7, 8, 4, 7);

        StageClock f = new StageClock();
        f.add(1, 1, 0, 0, true, 2, false);
        f.add(1, 1, 1 << 1, 0, true, 0, false);
        f.add(1, 2, 1 << 1, 0, true, 5, false);
        f.add(1, 0, 1 << 1 | 1 << 2, 0, false, 0, false);
        Check.times("the latest one counts", f, 1, 2, 3, 7, 8, 9, 7, 8);
        Check.times("the latest one counts", f, 2, 3, 7, 9, 10, 16, 9, 15);
        Check.times("the greatest counts", f, 3, 7, 9, 16, 17, 18, 16, 17);
    }

    /**
     * M[i] is at least W[i - 1], and that is later than READY of any one before i: so LATE never
     * makes an answer another one. It must not be taken for a register that i READS, either.
     */
    private static void promise5WhenLate() {
        StageClock c = new StageClock();
        load(c, 1, 2);
        c.add(1, 0, 0, 1, false, 0, false);
        Check.times("late does not hold X", c, 1, 2, 3, 4, 7, 8, 4, 7);

        StageClock e = new StageClock();
        e.add(5, 1, 0, 0, true, 2, true);
        e.add(1, 0, 0, 1, false, 0, false);
        Check.times("late long since given", e, 1, 8, 9, 10, 11, 12, 10, 11);
    }

    private static void promise5WhenWrong() {
        StageClock c = new StageClock();
        c.add(3, 0, 0, 0, false, 0, true);
        plain(c, 1);
        c.add(1, 0, 0, 0, false, 6, true);
        plain(c, 1);
        Check.times("wrong guess", c, 0, 1, 2, 3, 6, 7, 5, 6);
        Check.times("behind a wrong guess", c, 1, 6, 7, 8, 9, 10, 8, 9);
        Check.times("wrong guess with wait", c, 2, 7, 8, 9, 10, 17, 9, 16);
        Check.times("behind XE, not ME", c, 3, 10, 11, 12, 17, 18, 12, 17);
    }

    private static void promise6In() {
        StageClock c = new StageClock();
        plain(c, 4);
        plain(c, 1);
        plain(c, 1);
        int[][] want = {
            {-1, 0, 1, 2, 2, 2, 2, -1, -1, -1, -1, -1},
            {-1, -1, 0, 1, 1, 1, 1, 2, -1, -1, -1, -1},
            {-1, -1, -1, 0, 0, 0, 0, 1, 2, -1, -1, -1},
            {-1, -1, -1, -1, -1, -1, -1, 0, 1, 2, -1, -1},
            {-1, -1, -1, -1, -1, -1, -1, -1, 0, 1, 2, -1},
        };
        for (int stage = 0; stage <= 4; stage++) {
            for (int cycle = 0; cycle < want[stage].length; cycle++) {
                Check.due("in(" + stage + ", " + cycle + ")", c.in(stage, cycle), want[stage][cycle]);
            }
        }

        StageClock e = new StageClock();
        e.add(3, 0, 0, 0, false, 2, true);
        plain(e, 1);
        Check.due("none in F till the guess is known", e.in(0, 5), -1);
        Check.due("in F when the guess is known", e.in(0, 6), 1);
        Check.due("in M while it waits", e.in(3, 8), 0);
        Check.due("in W", e.in(4, 9), 0);
    }

    private static void promise7Held() {
        StageClock c = new StageClock();
        plain(c, 4);
        plain(c, 1);
        plain(c, 1);
        Check.due("held of the first", c.held(0), 0);
        Check.due("held by X taken", c.held(1), 3);
        Check.due("held in F only", c.held(2), 0);

        StageClock e = new StageClock();
        load(e, 1, 8);
        reader(e, 1 << 1);
        Check.due("held by a load", e.held(1), 9);
        e.change(0, 1, 1, 0, 0, true, 8, true);
        Check.due("held by a load behind a wrong guess", e.held(1), 7);
    }

    private static void promise8Giver() {
        StageClock c = new StageClock();
        c.add(1, 1, 0, 0, false, 0, false);
        c.add(1, 15, 0, 0, true, 0, false);
        c.add(1, 1, 0, 0, false, 0, true);
        c.add(1, 0, 0, 0, false, 0, false);
        Check.due("giver(0, 1): itself is not before it", c.giver(0, 1), -1);
        Check.due("giver(1, 1)", c.giver(1, 1), 0);
        Check.due("giver(1, 15)", c.giver(1, 15), -1);
        Check.due("giver(2, 1)", c.giver(2, 1), 0);
        Check.due("giver(2, 15)", c.giver(2, 15), 1);
        Check.due("giver(3, 1): the latest", c.giver(3, 1), 2);
        Check.due("giver(3, 15)", c.giver(3, 15), 1);
        Check.due("giver(3, 2)", c.giver(3, 2), -1);
    }

    private static void promise9Count() {
        StageClock c = new StageClock();
        c.add(1, 0, 0, 0, false, 0, false);
        Check.counts("one", c, 1, 5, 4, 0);
        c.add(3, 0, 0, 0, false, 2, true);
        Check.counts("two", c, 2, 10, 8, 1);
        c.add(1, 0, 0, 0, false, 0, true);
        Check.counts("three", c, 3, 11, 8, 2);
        c.change(1, 1, 0, 0, 0, false, 0, false);
        Check.counts("three, one changed", c, 3, 7, 4, 1);
    }
}
