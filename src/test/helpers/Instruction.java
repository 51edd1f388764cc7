/** The parts of an instruction as add and change take them; pause is WAIT, a name that a record can't have. */
record Instruction(int t, int gets, int reads, int late, boolean load, int pause, boolean wrong) {
    static final Instruction PLAIN = new Instruction(1, 0, 0, 0, false, 0, false);

    Instruction withT(int other) {
        return new Instruction(other, gets, reads, late, load, pause, wrong);
    }

    Instruction withGets(int other) {
        return new Instruction(t, other, reads, late, load, pause, wrong);
    }

    Instruction withReads(int other) {
        return new Instruction(t, gets, other, late, load, pause, wrong);
    }

    Instruction withLate(int other) {
        return new Instruction(t, gets, reads, other, load, pause, wrong);
    }

    Instruction asLoad() {
        return new Instruction(t, gets, reads, late, true, pause, wrong);
    }

    Instruction withWait(int other) {
        return new Instruction(t, gets, reads, late, load, other, wrong);
    }

    Instruction asWrong() {
        return new Instruction(t, gets, reads, late, load, pause, true);
    }

    int addTo(StageClock clock) {
        return clock.add(t, gets, reads, late, load, pause, wrong);
    }

    /** Answers 0, as change itself answers nothing. */
    int changeIn(StageClock clock, int k) {
        clock.change(k, t, gets, reads, late, load, pause, wrong);
        return 0;
    }
}
