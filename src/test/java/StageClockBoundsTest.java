import java.util.Arrays;
import java.util.function.IntFunction;

/**
 * Each sentence of the document that names a boundary case, in the document's order: the last value
 * that is allowed, the first one that is not, none, and 200.
 */
public final class StageClockBoundsTest {
    private static final Instruction PLAIN = Instruction.PLAIN;
    // 257 and its like would fit if they were cut down to a byte or a short.
    private static final int[] FAR = {Integer.MIN_VALUE, Integer.MIN_VALUE + 1, -255, 257, 65537, Integer.MAX_VALUE};

    private static final Run NONE = Run.of();
    private static final Run THREE = Run.of(
            PLAIN.withGets(1).asLoad().withWait(2)::addTo,
            PLAIN.withT(3).withGets(2).withReads(1 << 1).asWrong()::addTo,
            PLAIN.withGets(15).withReads(1 << 2).withLate(1)::addTo);

    public static void main(String[] args) {
        terms();
        promise1();
        promise2();
        promise3();
        promise4();
        promise5();
        promise6();
        promise7();
        promise8();
        promise9();
        Check.end("all boundary cases hold");
    }

    private static void terms() {
        upTo512Calls();
        instructionsUpTo200();
        tIs1To12();
        getsIs1To15OrNone();
        readsBits1To15();
        lateIsNoneOr1To15();
        waitIs0To8();
        cyclesFrom1();
        inEachTillTheNextBegins();
        inWForOneCycle();
        withoutAnEarlierOne();
        greaterOneForD();
        greatestForX();
        greatestForM();
        latestOneBefore();
    }

    private static void promise1() {
        noInstructions();
        noInstructionsInAnyObject();
    }

    private static void promise2() {
        addAnswersItsNumber();
        addRefusesWhenThereAre200();
    }

    private static void promise3() {
        changeRefusesLikewise();
        changeRefusesWhereThereIsNone();
        changeOfFirstAndLast();
    }

    private static void promise4() {
        cutStays();
        cutRefusesBelow0();
        cutRefusesWhenThereAreNotSoMany();
        cutOffIsGone();
    }

    private static void promise5() {
        whenRefusesOthers();
        whenRefusesWhereThereIsNone();
    }

    private static void promise6() {
        inAnswersNone();
        inRefusesNoSuchStage();
    }

    private static void promise7() {
        heldFromNothingOn();
        heldRefusesWhereThereIsNone();
    }

    private static void promise8() {
        giverAnswersNone();
        giverRefusesOtherRegisters();
        giverRefusesWhereThereIsNone();
    }

    private static void promise9() {
        countOfNone();
        countOf200();
        countRefusesOthers();
    }

    // ---- What the tests are made of ----

    private static int[] and(int[] some, int... others) {
        int[] all = Arrays.copyOf(others, others.length + some.length);
        System.arraycopy(some, 0, all, others.length, some.length);
        return all;
    }

    /** One alone has these times, whether it was added or another one was changed into it. */
    private static void taken(String what, Instruction one, int... times) {
        StageClock added = new StageClock();
        Check.answers("add with " + what, 0, () -> one.addTo(added));
        Check.times("add with " + what, added, 0, times);

        StageClock changed = Run.of(new Instruction(5, 5, 5, 5, true, 5, true)::addTo).object();
        Check.answers("change with " + what, 0, () -> one.changeIn(changed, 0));
        Check.times("change with " + what, changed, 0, times);
    }

    private static void refusedByAdd(String part, IntFunction<Instruction> one, int... values) {
        for (int value : values) {
            Instruction instruction = one.apply(value);
            NONE.refuses("add to none with " + part + " " + value, Check.ARGUMENT, instruction::addTo);
            THREE.refuses("add to three with " + part + " " + value, Check.ARGUMENT, instruction::addTo);
        }
    }

    private static void refusedByChange(String part, IntFunction<Instruction> one, int... values) {
        for (int value : values) {
            Instruction instruction = one.apply(value);
            for (int k = 0; k < 3; k++) {
                int changed = k;
                THREE.refuses("change " + k + " of three with " + part + " " + value, Check.ARGUMENT,
                        c -> instruction.changeIn(c, changed));
            }
        }
    }

    /** What is asked of one that there is not: below the first, behind the last, and far from both. */
    private static void refusedWhereThereIsNone(String call, IntFunction<Run.Call> about) {
        for (int k : and(FAR, -1, 0, 1, 199, 200)) {
            NONE.refuses(call + " of " + k + " of none", Check.INDEX, about.apply(k));
        }
        for (int k : and(FAR, -1, 3, 4, 199, 200)) {
            THREE.refuses(call + " of " + k + " of three", Check.INDEX, about.apply(k));
        }
        for (int k : and(FAR, 2, 3, -1)) {
            THREE.then(c -> c.cut(2)).refuses(call + " of " + k + " when two stay", Check.INDEX, about.apply(k));
        }
        for (int k : new int[] {-1, 200, 201}) {
            StageClock full = full(PLAIN);
            Check.refused(call + " of " + k + " of 200", Check.INDEX, () -> about.apply(k).on(full));
        }
    }

    private static StageClock full(Instruction one) {
        StageClock clock = new StageClock();
        for (int i = 0; i < 200; i++) {
            one.addTo(clock);
        }
        return clock;
    }

    private static void in(StageClock clock, int stage, int cycle, int want) {
        Check.answers("in(" + stage + ", " + cycle + ")", want, () -> clock.in(stage, cycle));
    }

    private static void when(String run, StageClock clock, int k, int what, int want) {
        Check.answers(run + ": when(" + k + ", " + what + ")", want, () -> clock.when(k, what));
    }

    private static void giver(StageClock clock, int k, int register, int want) {
        Check.answers("giver(" + k + ", " + register + ")", want, () -> clock.giver(k, register));
    }

    // ---- What it is, and Terms ----

    private static void upTo512Calls() {
        Check.about("An object is used for at most 512 calls");
        StageClock clock = full(PLAIN);
        for (int call = 201; call <= 511; call++) {
            PLAIN.withT(1 + call % 12).changeIn(clock, 199);
        }
        // Call 511 left it with T 1 + 511 % 12 = 8, and X is in cycle 202.
        when("call 512", clock, 199, 5, 209);
    }

    private static void instructionsUpTo200() {
        Check.about("Terms, INSTRUCTIONS 0, 1 .. up to 200");
        StageClock clock = full(PLAIN);
        Check.times("the first of 200", clock, 0, 1, 2, 3, 4, 5, 3, 4);
        Check.times("the last of 200", clock, 199, 200, 201, 202, 203, 204, 202, 203);

        Instruction longest = new Instruction(12, 15, 1 << 15, 15, true, 8, true);
        StageClock slow = full(longest);
        // Each is in X for the first time 21 cycles later than the one before it.
        Check.times("the last of 200 that take longest", slow, 199, 4173, 4174, 4182, 4194, 4203, 4193, 4202);
        in(slow, 4, 4203, 199);
    }

    private static void tIs1To12() {
        Check.about("Terms, T (1 to 12)");
        taken("t 1", PLAIN.withT(1), 1, 2, 3, 4, 5, 3, 4);
        taken("t 2", PLAIN.withT(2), 1, 2, 3, 5, 6, 4, 5);
        taken("t 11", PLAIN.withT(11), 1, 2, 3, 14, 15, 13, 14);
        taken("t 12", PLAIN.withT(12), 1, 2, 3, 15, 16, 14, 15);
        refusedByAdd("t", PLAIN::withT, and(FAR, 0, -1, 13, 14));
    }

    private static void getsIs1To15OrNone() {
        Check.about("Terms, GETS (1 to 15; 0: none)");
        for (int gets : new int[] {0, 1, 2, 14, 15}) {
            taken("gets " + gets, PLAIN.withGets(gets), 1, 2, 3, 4, 5, 3, 4);
            StageClock clock = Run.of(PLAIN.withGets(gets)::addTo, PLAIN::addTo).object();
            for (int register = 1; register <= 15; register++) {
                giver(clock, 1, register, register == gets ? 0 : -1);
            }
        }
        refusedByAdd("gets", PLAIN::withGets, and(FAR, -1, -2, 16, 17));
    }

    private static void readsBits1To15() {
        Check.about("Terms, READS (bits 1 to 15 of a number; others do not count)");
        for (int register = 0; register <= 15; register++) {
            for (int bit = 0; bit < 32; bit++) {
                int x = register == bit && register != 0 ? 7 : 4;
                Instruction load = PLAIN.withGets(register).asLoad().withWait(2);
                String run = "load of " + register + ", then bit " + bit;
                when(run + " read", Run.of(load::addTo, PLAIN.withReads(1 << bit)::addTo).object(), 1, 2, x);
                when(run + " not read", Run.of(load::addTo, PLAIN.withReads(~(1 << bit))::addTo).object(), 1, 2,
                        register == 0 || register == bit ? 4 : 7);
            }
        }
        for (int reads : new int[] {0, 1, 1 << 16, -1 << 16, Integer.MIN_VALUE, Integer.MAX_VALUE, -1, 0xFFFE}) {
            taken("reads " + reads, PLAIN.withReads(reads), 1, 2, 3, 4, 5, 3, 4);
        }
    }

    private static void lateIsNoneOr1To15() {
        Check.about("Terms, one that it must have LATE (0: none); promise 2, late (0..15)");
        for (int late : new int[] {0, 1, 2, 14, 15}) {
            taken("late " + late, PLAIN.withLate(late), 1, 2, 3, 4, 5, 3, 4);
            // M waits for W of the one before it anyhow; X must not wait for what is needed LATE only.
            Instruction load = PLAIN.withGets(late).asLoad().withWait(8);
            StageClock clock = Run.of(load::addTo, PLAIN.withLate(late)::addTo).object();
            Check.times("late " + late + " of a load", clock, 1, 2, 3, 4, 13, 14, 4, 13);
        }
        refusedByAdd("late", PLAIN::withLate, and(FAR, -1, -2, 16, 17));
    }

    private static void waitIs0To8() {
        Check.about("Terms, WAIT (0 to 8)");
        taken("wait 0", PLAIN.withWait(0), 1, 2, 3, 4, 5, 3, 4);
        taken("wait 1", PLAIN.withWait(1), 1, 2, 3, 4, 6, 3, 5);
        taken("wait 7", PLAIN.withWait(7), 1, 2, 3, 4, 12, 3, 11);
        taken("wait 8", PLAIN.withWait(8), 1, 2, 3, 4, 13, 3, 12);
        refusedByAdd("wait", PLAIN::withWait, and(FAR, -1, -2, 9, 10));
    }

    private static void cyclesFrom1() {
        Check.about("Terms, CYCLES are counted from 1");
        StageClock clock = Run.of(PLAIN::addTo).object();
        for (int stage = 0; stage <= 4; stage++) {
            in(clock, stage, stage, -1);
            in(clock, stage, stage + 1, 0);
            in(clock, stage, stage + 2, -1);
            for (int cycle : and(FAR, -1, 0)) {
                in(clock, stage, cycle, -1);
            }
        }
    }

    private static void inEachTillTheNextBegins() {
        Check.about("Terms, in each till the next begins");
        StageClock clock = Run.of(PLAIN.withT(3).withWait(2)::addTo, PLAIN::addTo).object();
        // A row for each stage: which one is in it in cycles 0, 1, 2 ..
        int[][] want = {
            {-1, 0, 1, -1, -1, -1, -1, -1, -1, -1, -1, -1},
            {-1, -1, 0, 1, 1, 1, -1, -1, -1, -1, -1, -1},
            {-1, -1, -1, 0, 0, 0, 1, 1, 1, -1, -1, -1},
            {-1, -1, -1, -1, -1, -1, 0, 0, 0, 1, -1, -1},
            {-1, -1, -1, -1, -1, -1, -1, -1, -1, 0, 1, -1},
        };
        for (int stage = 0; stage <= 4; stage++) {
            for (int cycle = 0; cycle < want[stage].length; cycle++) {
                in(clock, stage, cycle, want[stage][cycle]);
            }
        }
    }

    private static void inWForOneCycle() {
        Check.about("Terms, in W for one cycle");
        StageClock clock = Run.of(PLAIN::addTo, PLAIN.withT(3)::addTo).object();
        in(clock, 4, 4, -1);
        in(clock, 4, 5, 0);
        in(clock, 4, 6, -1);
        in(clock, 4, 7, -1);
        in(clock, 4, 8, 1);
        in(clock, 4, 9, -1);
    }

    private static void withoutAnEarlierOne() {
        Check.about("Terms, F[0] = 1; Without an i - 1: nothing of it");
        Instruction most = new Instruction(12, 1, -1, 1, true, 8, true);
        taken("the most of all", most, 1, 2, 3, 15, 24, 14, 23);
        StageClock clock = Run.of(most::addTo, most::addTo, c -> c.cut(0), PLAIN::addTo).object();
        Check.times("the first one behind a cut", clock, 0, 1, 2, 3, 4, 5, 3, 4);
    }

    private static void greaterOneForD() {
        Check.about("Terms, D[i] = the greater one of F[i] + 1, X[i - 1]");
        when("both the same", Run.of(PLAIN::addTo, PLAIN::addTo).object(), 1, 1, 3);
        when("F[i] + 1", Run.of(PLAIN.asWrong()::addTo, PLAIN::addTo).object(), 1, 1, 5);
        when("X[i - 1]", Run.of(PLAIN.withT(2)::addTo, PLAIN::addTo, PLAIN::addTo).object(), 2, 1, 5);
    }

    private static void greatestForX() {
        Check.about("Terms, X[i] = the greatest of D[i] + 1, M[i - 1], and READY + 1");
        when("D[i] + 1 as great as M[i - 1]", Run.of(PLAIN::addTo, PLAIN::addTo).object(), 1, 2, 4);
        when("D[i] + 1", Run.of(PLAIN.asWrong()::addTo, PLAIN::addTo).object(), 1, 2, 6);
        when("M[i - 1]", Run.of(PLAIN.withT(2)::addTo, PLAIN::addTo).object(), 1, 2, 5);
        Run.Call reader = PLAIN.withReads(1 << 1)::addTo;
        Run.Call load = PLAIN.withGets(1).asLoad()::addTo;
        when("READY + 1 of XE, as great", Run.of(PLAIN.withGets(1)::addTo, reader).object(), 1, 2, 4);
        when("READY + 1 of ME, greater by 1", Run.of(load, reader).object(), 1, 2, 5);
        when("READY + 1 of ME, as great", Run.of(load, PLAIN::addTo, reader).object(), 2, 2, 5);
        when("READY + 1 of ME, less", Run.of(load, PLAIN::addTo, PLAIN::addTo, reader).object(), 3, 2, 6);
    }

    private static void greatestForM() {
        Check.about("Terms, M[i] = the greatest of XE[i] + 1, W[i - 1], and READY + 1");
        when("XE[i] + 1 as great as W[i - 1]", Run.of(PLAIN::addTo, PLAIN::addTo).object(), 1, 3, 5);
        when("XE[i] + 1", Run.of(PLAIN::addTo, PLAIN.withT(2)::addTo).object(), 1, 3, 6);
        when("W[i - 1]", Run.of(PLAIN.withWait(1)::addTo, PLAIN::addTo).object(), 1, 3, 6);
        Run.Call load = PLAIN.withGets(1).asLoad().withWait(1)::addTo;
        when("READY + 1 as great as W[i - 1]", Run.of(load, PLAIN.withLate(1)::addTo).object(), 1, 3, 6);
        when("none GETS what is needed LATE", Run.of(load, PLAIN.withLate(2)::addTo).object(), 1, 3, 6);
    }

    private static void latestOneBefore() {
        Check.about("Terms, the latest one before i that GETS r");
        // Of those that GET r only the one straight before i can hold X: M[i - 1] waits for all others.
        Instruction load = PLAIN.withGets(1).asLoad().withWait(8);
        Run.Call reader = PLAIN.withReads(1 << 1)::addTo;
        when("not an earlier one", Run.of(PLAIN.withGets(1)::addTo, load::addTo, reader).object(), 2, 2, 14);
        when("not of another register", Run.of(load.withGets(2)::addTo, reader).object(), 1, 2, 4);
        when("not itself", Run.of(PLAIN::addTo, load.withReads(1 << 1)::addTo).object(), 1, 2, 4);
        when("not a later one", Run.of(reader, load::addTo).object(), 0, 2, 3);
    }

    // ---- Promise 1 ----

    private static void noInstructions() {
        Check.about("Promise 1, No INSTRUCTIONS");
        StageClock clock = new StageClock();
        Check.counts("new", clock, 0, 0, 0, 0);
        for (int stage = 0; stage <= 4; stage++) {
            for (int cycle : and(FAR, 0, 1, 2)) {
                in(clock, stage, cycle, -1);
            }
        }
        Check.refused("when(0, 0)", Check.INDEX, () -> clock.when(0, 0));
        Check.refused("held(0)", Check.INDEX, () -> clock.held(0));
        Check.refused("giver(0, 1)", Check.INDEX, () -> clock.giver(0, 1));
        Check.refused("change(0)", Check.INDEX, () -> PLAIN.changeIn(clock, 0));
        Check.refused("cut(1)", Check.ARGUMENT, () -> clock.cut(1));
        Check.answers("cut(0)", 0, () -> clock.cut(0));
    }

    private static void noInstructionsInAnyObject() {
        Check.about("Promise 1, A new object");
        StageClock first = new StageClock();
        StageClock second = new StageClock();
        full(PLAIN);
        PLAIN.withGets(1).asLoad().addTo(first);
        Check.counts("one beside others", second, 0, 0, 0, 0);
        Check.answers("add to one beside others", 0, () -> PLAIN.withReads(-1).addTo(second));
        Check.times("one beside others", second, 0, 1, 2, 3, 4, 5, 3, 4);
    }

    // ---- Promise 2 ----

    private static void addAnswersItsNumber() {
        Check.about("Promise 2, One more behind the others: its number");
        StageClock clock = new StageClock();
        for (int i = 0; i < 200; i++) {
            int number = i;
            Check.answers("add number " + i, number, () -> PLAIN.addTo(clock));
        }
        clock.cut(7);
        Check.answers("add behind seven", 7, () -> PLAIN.addTo(clock));
    }

    private static void addRefusesWhenThereAre200() {
        Check.about("Promise 2, IllegalStateException: there are 200");
        StageClock clock = full(PLAIN);
        Check.refused("add to 200", Check.STATE, () -> PLAIN.addTo(clock));
        Check.counts("200", clock, 200, 204, 4, 0);
        Check.answers("cut(200)", 200, () -> clock.cut(200));
        Check.refused("add to 200 of which all stay", Check.STATE, () -> PLAIN.addTo(clock));
        Check.answers("change of the last of 200", 0, () -> PLAIN.withT(2).changeIn(clock, 199));
        Check.answers("cut(199)", 200, () -> clock.cut(199));
        Check.answers("add to 199", 199, () -> PLAIN.addTo(clock));
        Check.refused("add to 200 again", Check.STATE, () -> PLAIN.addTo(clock));
    }

    // ---- Promise 3 ----

    private static void changeRefusesLikewise() {
        Check.about("Promise 3, IllegalArgumentException likewise");
        refusedByChange("t", PLAIN::withT, and(FAR, 0, -1, 13, 14));
        refusedByChange("gets", PLAIN::withGets, and(FAR, -1, -2, 16, 17));
        refusedByChange("late", PLAIN::withLate, and(FAR, -1, -2, 16, 17));
        refusedByChange("wait", PLAIN::withWait, and(FAR, -1, -2, 9, 10));
    }

    private static void changeRefusesWhereThereIsNone() {
        Check.about("Promise 3, IndexOutOfBoundsException: there is none");
        refusedWhereThereIsNone("change", k -> c -> PLAIN.withT(2).withGets(3).changeIn(c, k));
    }

    private static void changeOfFirstAndLast() {
        Check.about("Promise 3, INSTRUCTION k is another one");
        StageClock clock = full(PLAIN);
        Check.answers("change of the first", 0, () -> PLAIN.withT(2).changeIn(clock, 0));
        Check.times("the first is another one", clock, 0, 1, 2, 3, 5, 6, 4, 5);
        Check.times("the last is later", clock, 199, 201, 202, 203, 204, 205, 203, 204);
        Check.answers("change of the last", 0, () -> PLAIN.withWait(1).asWrong().changeIn(clock, 199));
        Check.times("the one before the last is as it was", clock, 198, 200, 201, 202, 203, 204, 202, 203);
        Check.times("the last is another one", clock, 199, 201, 202, 203, 204, 206, 203, 205);
        Check.counts("both changed", clock, 200, 206, 6, 1);
    }

    // ---- Promise 4 ----

    private static void cutStays() {
        Check.about("Promise 4, The first n stay: how many there were");
        for (int n = 0; n <= 3; n++) {
            int stay = n;
            StageClock clock = THREE.object();
            Check.answers("cut(" + n + ") of three", 3, () -> clock.cut(stay));
            Check.answers("cut(" + n + ") of those", stay, () -> clock.cut(stay));
            Check.answers("count(0)", stay, () -> clock.count(0));
        }
        Check.same("all three stay", THREE.then(c -> c.cut(3)).answers(), THREE.answers());
        Check.same("none stays", THREE.then(c -> c.cut(0)).answers(), NONE.answers());
        StageClock full = full(PLAIN);
        Check.answers("cut(200) of 200", 200, () -> full.cut(200));
        Check.answers("cut(0) of 200", 200, () -> full.cut(0));
        Check.answers("cut(0) of none", 0, () -> full.cut(0));
    }

    private static void cutRefusesBelow0() {
        Check.about("Promise 4, IllegalArgumentException: n is below 0");
        for (int n : new int[] {-1, -2, -255, Integer.MIN_VALUE, Integer.MIN_VALUE + 1}) {
            NONE.refuses("cut(" + n + ") of none", Check.ARGUMENT, c -> c.cut(n));
            THREE.refuses("cut(" + n + ") of three", Check.ARGUMENT, c -> c.cut(n));
        }
    }

    private static void cutRefusesWhenThereAreNotSoMany() {
        Check.about("Promise 4, IllegalArgumentException: there are not so many");
        for (int n : new int[] {1, 2, 200, 257, 65537, Integer.MAX_VALUE}) {
            NONE.refuses("cut(" + n + ") of none", Check.ARGUMENT, c -> c.cut(n));
        }
        for (int n : new int[] {4, 5, 200, 257, 65537, Integer.MAX_VALUE}) {
            THREE.refuses("cut(" + n + ") of three", Check.ARGUMENT, c -> c.cut(n));
        }
        THREE.then(c -> c.cut(1)).refuses("cut(2) when one stays", Check.ARGUMENT, c -> c.cut(2));
        StageClock full = full(PLAIN);
        Check.refused("cut(201) of 200", Check.ARGUMENT, () -> full.cut(201));
        Check.counts("200 after cut(201)", full, 200, 204, 4, 0);
    }

    private static void cutOffIsGone() {
        Check.about("Promise 4, those behind the first n");
        Run one = Run.of(PLAIN::addTo);
        Run.Call most = new Instruction(12, 3, -1, 3, true, 8, true)::addTo;
        Run.Call reader = PLAIN.withReads(-1).withLate(3)::addTo;
        Check.same("as if never added", one.then(most, c -> c.cut(1)).answers(), one.answers());
        Check.same("the next ones", one.then(most, most, c -> c.cut(1), reader, reader).answers(),
                one.then(reader, reader).answers());
    }

    // ---- Promise 5 ----

    private static void whenRefusesOthers() {
        Check.about("Promise 5, IllegalArgumentException for others");
        Check.times("0 to 6 are known", Run.of(PLAIN.withT(2).withWait(1)::addTo).object(), 0, 1, 2, 3, 5, 7, 4, 6);
        for (int what : and(FAR, -1, -2, 7, 8)) {
            THREE.refuses("when(0, " + what + ")", Check.ARGUMENT, c -> c.when(0, what));
            THREE.refuses("when(2, " + what + ")", Check.ARGUMENT, c -> c.when(2, what));
        }
    }

    private static void whenRefusesWhereThereIsNone() {
        Check.about("Promise 5, IndexOutOfBoundsException: there is none");
        refusedWhereThereIsNone("when 0", k -> c -> c.when(k, 0));
        refusedWhereThereIsNone("when 6", k -> c -> c.when(k, 6));
    }

    // ---- Promise 6 ----

    private static void inAnswersNone() {
        Check.about("Promise 6, -1: none");
        StageClock clock = Run.of(PLAIN.withT(3).asWrong()::addTo, PLAIN::addTo).object();
        // The second one is in F from cycle 6 on, one after the other's last in X.
        in(clock, 0, 1, 0);
        in(clock, 0, 2, -1);
        in(clock, 0, 5, -1);
        in(clock, 0, 6, 1);
        in(clock, 0, 7, -1);
        for (int stage = 0; stage <= 4; stage++) {
            for (int cycle : and(FAR, -1, 0, 11)) {
                in(clock, stage, cycle, -1);
            }
        }
    }

    private static void inRefusesNoSuchStage() {
        Check.about("Promise 6, IllegalArgumentException: there is no such stage");
        for (int stage : and(FAR, -1, -2, 5, 6, 7)) {
            for (int cycle : new int[] {0, 1, 4, Integer.MIN_VALUE, Integer.MAX_VALUE}) {
                NONE.refuses("in(" + stage + ", " + cycle + ") of none", Check.ARGUMENT, c -> c.in(stage, cycle));
                THREE.refuses("in(" + stage + ", " + cycle + ") of three", Check.ARGUMENT, c -> c.in(stage, cycle));
            }
        }
    }

    // ---- Promise 7 ----

    private static void heldFromNothingOn() {
        Check.about("Promise 7, By how many cycles k is in X later than D[k] + 1");
        Run.Call reader = PLAIN.withReads(1 << 1)::addTo;
        StageClock none = Run.of(PLAIN::addTo, PLAIN::addTo).object();
        Check.answers("held(0), the first", 0, () -> none.held(0));
        Check.answers("held(1), not held", 0, () -> none.held(1));
        StageClock one = Run.of(PLAIN.withGets(1).asLoad()::addTo, reader).object();
        Check.answers("held(1) by a load", 1, () -> one.held(1));
        StageClock most = Run.of(PLAIN.withT(12).withGets(1).asLoad().withWait(8)::addTo, reader).object();
        Check.answers("held(1) by the longest load", 20, () -> most.held(1));
        StageClock full = full(PLAIN.withT(2));
        Check.answers("held(199) by M", 1, () -> full.held(199));
    }

    private static void heldRefusesWhereThereIsNone() {
        Check.about("Promise 7, IndexOutOfBoundsException: there is none");
        refusedWhereThereIsNone("held", k -> c -> c.held(k));
    }

    // ---- Promise 8 ----

    private static void giverAnswersNone() {
        Check.about("Promise 8, The latest one before k that GETS a register; -1: none");
        StageClock clock = Run.of(PLAIN.withGets(1)::addTo, PLAIN.withGets(15)::addTo, PLAIN.withGets(1)::addTo,
                PLAIN::addTo).object();
        int[][] want = {{-1, -1, -1, -1}, {0, -1, -1, -1}, {0, -1, -1, 1}, {2, -1, -1, 1}};
        int[] registers = {1, 2, 14, 15};
        for (int k = 0; k < want.length; k++) {
            for (int i = 0; i < registers.length; i++) {
                giver(clock, k, registers[i], want[k][i]);
            }
        }
        StageClock full = full(PLAIN.withGets(15));
        giver(full, 199, 15, 198);
        giver(full, 199, 14, -1);
        giver(full, 0, 15, -1);
        giver(full, 1, 15, 0);
    }

    private static void giverRefusesOtherRegisters() {
        Check.about("Promise 8, IllegalArgumentException: it is not 1..15");
        for (int register : and(FAR, 0, -1, 16, 17, 33)) {
            THREE.refuses("giver(0, " + register + ")", Check.ARGUMENT, c -> c.giver(0, register));
            THREE.refuses("giver(2, " + register + ")", Check.ARGUMENT, c -> c.giver(2, register));
        }
    }

    private static void giverRefusesWhereThereIsNone() {
        Check.about("Promise 8, IndexOutOfBoundsException: there is none");
        refusedWhereThereIsNone("giver of 1", k -> c -> c.giver(k, 1));
        refusedWhereThereIsNone("giver of 15", k -> c -> c.giver(k, 15));
    }

    // ---- Promise 9 ----

    private static void countOfNone() {
        Check.about("Promise 9, the last one's W (0: none)");
        Check.counts("new", new StageClock(), 0, 0, 0, 0);
        Check.counts("none stays", THREE.then(c -> c.cut(0)).object(), 0, 0, 0, 0);
        Check.counts("one", Run.of(PLAIN.asWrong()::addTo).object(), 1, 5, 4, 1);
    }

    private static void countOf200() {
        Check.about("Promise 9, of 200");
        Check.counts("plain", full(PLAIN), 200, 204, 4, 0);
        Check.counts("wrong", full(PLAIN.asWrong()), 200, 602, 402, 200);
        Check.counts("the longest", full(new Instruction(12, 15, 1 << 15, 15, true, 8, true)), 200, 4203, 4003, 200);
    }

    private static void countRefusesOthers() {
        Check.about("Promise 9, IllegalArgumentException for others");
        for (int what : and(FAR, -1, -2, 4, 5)) {
            NONE.refuses("count(" + what + ") of none", Check.ARGUMENT, c -> c.count(what));
            THREE.refuses("count(" + what + ") of three", Check.ARGUMENT, c -> c.count(what));
        }
    }
}
