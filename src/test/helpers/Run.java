import java.util.ArrayList;
import java.util.List;

/** A row of calls that can be made on a new object as often as a test needs one in that state. */
final class Run {
    /** The document promises nothing about an object after its 512th call. */
    static final int MOST_CALLS = 512;

    interface Call {
        int on(StageClock clock);
    }

    // They let times be worked out again, so that a part that was changed but not yet used shows.
    private static final Instruction READER = Instruction.PLAIN.withReads(-1);
    private static final Instruction LOAD = Instruction.PLAIN.withGets(1).asLoad().withWait(3);
    private static final Call[][] LATER = {
        {READER::addTo, c -> READER.changeIn(c, 1)},
        {READER::addTo, c -> LOAD.changeIn(c, 0)},
    };

    private final List<Call> calls;

    private Run(List<Call> calls) {
        this.calls = calls;
    }

    static Run of(Call... calls) {
        return new Run(List.of(calls));
    }

    Run then(Call... more) {
        List<Call> all = new ArrayList<>(calls);
        all.addAll(List.of(more));
        return new Run(all);
    }

    /** A new object on which all calls were made; one that throws is passed over. */
    StageClock object() {
        StageClock clock = new StageClock();
        for (Call call : calls) {
            Check.answer(() -> call.on(clock));
        }
        return clock;
    }

    /** The call throws what is due, and no answer is another one for it, neither at once nor later. */
    void refuses(String what, String exception, Call call) {
        StageClock clock = object();
        Check.refused(what, exception, () -> call.on(clock));
        Check.same("after " + what, then(call).answers(), answers());
        for (Call[] later : LATER) {
            Check.same("later than " + what, then(call).then(later).answers(), then(later).answers());
        }
    }

    /** All that can be asked behind this run, one answer behind the other. */
    List<String> answers() {
        Asker asker = new Asker();
        for (int what = 0; what <= 3; what++) {
            asker.askCount(what);
        }
        StageClock clock = object();
        int size = clock.count(0);
        int end = clock.count(1);
        for (int k = 0; k < size; k++) {
            asker.askAbout(k);
        }
        for (int stage = 0; stage <= 4; stage++) {
            for (int cycle = 0; cycle <= end + 1; cycle++) {
                asker.askIn(stage, cycle);
            }
        }
        return asker.answers;
    }

    /** Goes on with another object in the same state when one has had its 512 calls. */
    private final class Asker {
        private final List<String> answers = new ArrayList<>();
        private StageClock clock = object();
        private int used = calls.size();

        private void ask(String question, Call call) {
            if (used == MOST_CALLS) {
                clock = object();
                used = calls.size();
            }
            used++;
            answers.add(question + " " + Check.answer(() -> call.on(clock)));
        }

        private void askCount(int what) {
            ask("count(" + what + ")", c -> c.count(what));
        }

        private void askAbout(int k) {
            for (int what = 0; what <= 6; what++) {
                int asked = what;
                ask("when(" + k + ", " + what + ")", c -> c.when(k, asked));
            }
            ask("held(" + k + ")", c -> c.held(k));
            for (int register = 1; register <= 15; register++) {
                int asked = register;
                ask("giver(" + k + ", " + register + ")", c -> c.giver(k, asked));
            }
        }

        private void askIn(int stage, int cycle) {
            ask("in(" + stage + ", " + cycle + ")", c -> c.in(stage, cycle));
        }
    }
}
