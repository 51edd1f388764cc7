import java.util.List;
import java.util.function.IntSupplier;

/** Tells the answers that are not as due, and ends a test with exit code 1 if there was one. */
final class Check {
    static final String ARGUMENT = "IllegalArgumentException";
    static final String STATE = "IllegalStateException";
    static final String INDEX = "IndexOutOfBoundsException";

    private static final int SHOWN = 40;

    private static String heading = "";
    private static int wrong = 0;

    private Check() {
    }

    /** What the next answers are about: it is told with each that is not as due. */
    static void about(String text) {
        heading = text + ": ";
    }

    static void due(String what, Object got, Object want) {
        if (got.equals(want)) {
            return;
        }
        wrong++;
        if (wrong <= SHOWN) {
            System.out.println(heading + what + " answered " + got + ", due is " + want);
        }
    }

    static void answers(String what, int want, IntSupplier call) {
        due(what, answer(call), String.valueOf(want));
    }

    /** An exception of a class derived from the one that is due is not that one: names are compared. */
    static void refused(String what, String exception, IntSupplier call) {
        due(what, answer(call), exception);
    }

    /** The number that a call answers, or the name of the exception that it throws. */
    static String answer(IntSupplier call) {
        try {
            return String.valueOf(call.getAsInt());
        } catch (RuntimeException e) {
            return e.getClass().getSimpleName();
        }
    }

    /** Of two rows of answers that are not the same, the first difference is told. */
    static void same(String what, List<String> got, List<String> want) {
        due(what + ": answers in all", got.size(), want.size());
        for (int i = 0; i < Math.min(got.size(), want.size()); i++) {
            if (!got.get(i).equals(want.get(i))) {
                due(what, got.get(i), want.get(i));
                return;
            }
        }
    }

    /** The times of instruction k in the order of what: F, D, X, M, W, XE, ME. */
    static void times(String run, StageClock clock, int k, int... want) {
        for (int what = 0; what < want.length; what++) {
            int asked = what;
            answers(run + ": when(" + k + ", " + what + ")", want[what], () -> clock.when(k, asked));
        }
    }

    static void counts(String run, StageClock clock, int... want) {
        for (int what = 0; what < want.length; what++) {
            int asked = what;
            answers(run + ": count(" + what + ")", want[what], () -> clock.count(asked));
        }
    }

    static void end(String well) {
        System.out.println(wrong == 0 ? well : wrong + " answers are not as due");
        if (wrong != 0) {
            System.exit(1);
        }
    }
}
