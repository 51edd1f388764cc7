/**
 * "Of several exceptions of a call the one named first in its heading is thrown; a call that throws
 * changes nothing."
 */
public final class StageClockRefusedTest {
    private static final Instruction PLAIN = Instruction.PLAIN;
    private static final Instruction[] UNFIT = {
        PLAIN.withT(0), PLAIN.withT(13), PLAIN.withGets(-1), PLAIN.withGets(16),
        PLAIN.withLate(-1), PLAIN.withLate(16), PLAIN.withWait(-1), PLAIN.withWait(9),
    };
    private static final Run NONE = Run.of();
    private static final Run FIVE = mixed(5);
    private static final Run FULL = mixed(200);
    private static final Run[] STATES = {NONE, FIVE, FULL.then(c -> c.cut(3)), FULL};
    private static final String[] NAMES = {"none", "five", "three that stay", "200"};

    public static void main(String[] args) {
        addNamesArgumentFirst();
        changeNamesArgumentFirst();
        whenNamesArgumentFirst();
        giverNamesArgumentFirst();
        unfitAddChangesNothing();
        fullAddChangesNothing();
        unfitChangeChangesNothing();
        changeOfNoneChangesNothing();
        cutChangesNothing();
        questionsChangeNothing();
        manyRefusedCallsChangeNothing();
        Check.end("all refused calls are as due");
    }

    /** Instructions of all kinds: every part takes its least and its most value now and then. */
    private static Run mixed(int size) {
        Run.Call[] adds = new Run.Call[size];
        for (int i = 0; i < size; i++) {
            adds[i] = new Instruction(1 + i * 5 % 12, (i + 1) * 3 % 16, i * 4099, i * 7 % 16, i % 3 == 0, i * 4 % 9,
                    i % 5 == 2)::addTo;
        }
        return Run.of(adds);
    }

    private static int beyond(Run state) {
        return state.object().count(0);
    }

    private static void addNamesArgumentFirst() {
        Check.about("Two exceptions of add: 200 and a part that does not fit");
        for (Instruction unfit : UNFIT) {
            StageClock full = FULL.object();
            Check.refused(unfit.toString(), Check.ARGUMENT, () -> unfit.addTo(full));
        }
        Instruction nothingFits = new Instruction(0, 16, -1, 16, true, 9, true);
        StageClock full = FULL.object();
        Check.refused(nothingFits.toString(), Check.ARGUMENT, () -> nothingFits.addTo(full));
    }

    private static void changeNamesArgumentFirst() {
        Check.about("Two exceptions of change: there is none, and a part that does not fit");
        for (Run state : STATES) {
            for (int k : new int[] {-1, beyond(state), Integer.MIN_VALUE, Integer.MAX_VALUE}) {
                for (Instruction unfit : UNFIT) {
                    StageClock clock = state.object();
                    Check.refused("change " + k + " " + unfit, Check.ARGUMENT, () -> unfit.changeIn(clock, k));
                }
            }
        }
    }

    private static void whenNamesArgumentFirst() {
        Check.about("Two exceptions of when: there is none, and no such time");
        for (Run state : STATES) {
            for (int k : new int[] {-1, beyond(state), Integer.MIN_VALUE, Integer.MAX_VALUE}) {
                for (int what : new int[] {-1, 7, Integer.MIN_VALUE, Integer.MAX_VALUE}) {
                    StageClock clock = state.object();
                    Check.refused("when(" + k + ", " + what + ")", Check.ARGUMENT, () -> clock.when(k, what));
                }
            }
        }
    }

    private static void giverNamesArgumentFirst() {
        Check.about("Two exceptions of giver: there is none, and no such register");
        for (Run state : STATES) {
            for (int k : new int[] {-1, beyond(state), Integer.MIN_VALUE, Integer.MAX_VALUE}) {
                for (int register : new int[] {0, 16, Integer.MIN_VALUE, Integer.MAX_VALUE}) {
                    StageClock clock = state.object();
                    Check.refused("giver(" + k + ", " + register + ")", Check.ARGUMENT, () -> clock.giver(k, register));
                }
            }
        }
    }

    private static void refusedInAllStates(String call, String exception, Run.Call refused) {
        for (int i = 0; i < STATES.length; i++) {
            STATES[i].refuses(call + " of " + NAMES[i], exception, refused);
        }
    }

    private static void unfitAddChangesNothing() {
        Check.about("A call that throws changes nothing: add with a part that does not fit");
        for (Instruction unfit : UNFIT) {
            refusedInAllStates("add " + unfit, Check.ARGUMENT, unfit::addTo);
        }
    }

    private static void fullAddChangesNothing() {
        Check.about("A call that throws changes nothing: add to 200");
        FULL.refuses("add the least", Check.STATE, PLAIN::addTo);
        FULL.refuses("add the most", Check.STATE, new Instruction(12, 15, -1, 15, true, 8, true)::addTo);
    }

    private static void unfitChangeChangesNothing() {
        Check.about("A call that throws changes nothing: change with a part that does not fit");
        for (Instruction unfit : UNFIT) {
            for (int k : new int[] {0, 1, 2, 3, 4}) {
                FIVE.refuses("change " + k + " " + unfit, Check.ARGUMENT, c -> unfit.changeIn(c, k));
            }
        }
        FULL.refuses("change 0 of 200", Check.ARGUMENT, c -> PLAIN.withT(12).withWait(9).changeIn(c, 0));
        FULL.refuses("change 199 of 200", Check.ARGUMENT, c -> PLAIN.withT(12).withLate(16).changeIn(c, 199));
    }

    private static void changeOfNoneChangesNothing() {
        Check.about("A call that throws changes nothing: change where there is none");
        for (int i = 0; i < STATES.length; i++) {
            for (int k : new int[] {-1, beyond(STATES[i])}) {
                STATES[i].refuses("change " + k + " of " + NAMES[i], Check.INDEX,
                        c -> new Instruction(12, 15, -1, 15, true, 8, true).changeIn(c, k));
            }
        }
    }

    private static void cutChangesNothing() {
        Check.about("A call that throws changes nothing: cut");
        refusedInAllStates("cut(-1)", Check.ARGUMENT, c -> c.cut(-1));
        for (int i = 0; i < STATES.length; i++) {
            int n = beyond(STATES[i]) + 1;
            STATES[i].refuses("cut(" + n + ") of " + NAMES[i], Check.ARGUMENT, c -> c.cut(n));
        }
    }

    private static void questionsChangeNothing() {
        Check.about("A call that throws changes nothing: when, in, held, giver, count");
        refusedInAllStates("when(0, 7)", Check.ARGUMENT, c -> c.when(0, 7));
        refusedInAllStates("when(200, 0)", Check.INDEX, c -> c.when(200, 0));
        refusedInAllStates("in(5, 1)", Check.ARGUMENT, c -> c.in(5, 1));
        refusedInAllStates("held(200)", Check.INDEX, c -> c.held(200));
        refusedInAllStates("giver(0, 16)", Check.ARGUMENT, c -> c.giver(0, 16));
        refusedInAllStates("giver(200, 1)", Check.INDEX, c -> c.giver(200, 1));
        refusedInAllStates("count(4)", Check.ARGUMENT, c -> c.count(4));
    }

    private static void manyRefusedCallsChangeNothing() {
        Check.about("A call that throws changes nothing: many of them");
        Run refused = FIVE;
        for (int i = 0; i < 50; i++) {
            Instruction unfit = UNFIT[i % UNFIT.length];
            refused = refused.then(unfit::addTo, c -> unfit.changeIn(c, 1), c -> c.cut(6));
        }
        Check.same("five", refused.answers(), FIVE.answers());
        Check.same("five and one more", refused.then(PLAIN::addTo).answers(), FIVE.then(PLAIN::addTo).answers());
    }
}
