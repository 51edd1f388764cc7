import java.util.ArrayList;
import java.util.List;
import java.util.Random;
import java.util.function.IntSupplier;

/** Long runs of drawn calls, each answer held against a model that follows the document word by word. */
public final class StageClockModelTest {
    private static final int RUNS = 300;

    /** Keeps instructions only, and works out every time anew for every question. */
    private static final class Model {
        private final List<Instruction> all = new ArrayList<>();

        int add(Instruction one) {
            if (!fits(one)) {
                throw new IllegalArgumentException();
            }
            if (all.size() == 200) {
                throw new IllegalStateException();
            }
            all.add(one);
            return all.size() - 1;
        }

        int change(int k, Instruction one) {
            if (!fits(one)) {
                throw new IllegalArgumentException();
            }
            all.set(existing(k), one);
            return 0;
        }

        int cut(int n) {
            if (n < 0 || n > all.size()) {
                throw new IllegalArgumentException();
            }
            int before = all.size();
            all.subList(n, before).clear();
            return before;
        }

        int when(int k, int what) {
            if (what < 0 || what > 6) {
                throw new IllegalArgumentException();
            }
            return times()[existing(k)][what];
        }

        int in(int stage, int cycle) {
            if (stage < 0 || stage > 4) {
                throw new IllegalArgumentException();
            }
            int[][] times = times();
            for (int i = 0; i < all.size(); i++) {
                int end = stage == 4 ? times[i][4] + 1 : times[i][stage + 1];
                for (int c = times[i][stage]; c < end; c++) {
                    if (c == cycle) {
                        return i;
                    }
                }
            }
            return -1;
        }

        int held(int k) {
            int[] times = times()[existing(k)];
            return times[2] - times[1] - 1;
        }

        int giver(int k, int register) {
            if (register < 1 || register > 15) {
                throw new IllegalArgumentException();
            }
            return latest(existing(k), register);
        }

        int count(int what) {
            int[][] times = times();
            int last = all.isEmpty() ? 0 : times[all.size() - 1][4];
            switch (what) {
                case 0: return all.size();
                case 1: return last;
                case 2: return emptyInW(last);
                case 3: return (int) all.stream().filter(Instruction::wrong).count();
                default: throw new IllegalArgumentException();
            }
        }

        private int emptyInW(int last) {
            boolean[] taken = new boolean[last + 1];
            for (int[] row : times()) {
                taken[row[4]] = true;
            }
            int empty = 0;
            for (int cycle = 1; cycle <= last; cycle++) {
                empty += taken[cycle] ? 0 : 1;
            }
            return empty;
        }

        private boolean fits(Instruction o) {
            return within(o.t(), 1, 12) && within(o.pause(), 0, 8) && within(o.gets(), 0, 15) && within(o.late(), 0, 15);
        }

        private boolean within(int value, int least, int most) {
            return value >= least && value <= most;
        }

        private int existing(int k) {
            if (k < 0 || k >= all.size()) {
                throw new IndexOutOfBoundsException();
            }
            return k;
        }

        private int latest(int k, int register) {
            int found = -1;
            for (int i = 0; i < k; i++) {
                found = all.get(i).gets() == register ? i : found;
            }
            return found;
        }

        private int[][] times() {
            int[][] rows = new int[all.size()][];
            for (int i = 0; i < rows.length; i++) {
                rows[i] = row(i, rows);
            }
            return rows;
        }

        private int[] row(int i, int[][] rows) {
            Instruction one = all.get(i);
            int f = i == 0 ? 1 : all.get(i - 1).wrong() ? rows[i - 1][5] + 1 : rows[i - 1][1];
            int d = i == 0 ? f + 1 : Math.max(f + 1, rows[i - 1][2]);
            int x = i == 0 ? d + 1 : Math.max(d + 1, rows[i - 1][3]);
            for (int r = 1; r <= 15; r++) {
                if ((one.reads() & 1 << r) != 0 && latest(i, r) >= 0) {
                    x = Math.max(x, ready(latest(i, r), rows) + 1);
                }
            }
            int xe = x + one.t() - 1;
            int m = i == 0 ? xe + 1 : Math.max(xe + 1, rows[i - 1][4]);
            if (one.late() != 0 && latest(i, one.late()) >= 0) {
                m = Math.max(m, ready(latest(i, one.late()), rows) + 1);
            }
            int me = m + one.pause();
            return new int[] {f, d, x, m, me + 1, xe, me};
        }

        private int ready(int i, int[][] rows) {
            return all.get(i).load() ? rows[i][6] : rows[i][5];
        }
    }

    public static void main(String[] args) {
        for (int run = 0; run < RUNS; run++) {
            play(run);
        }
        Check.end("all runs are as the model's");
    }

    private static void play(int run) {
        Random draw = new Random(run);
        StageClock clock = new StageClock();
        Model model = new Model();
        // Some runs hardly ask before the object is full, so that its limit is met.
        int adds = run % 3 == 0 ? 85 : 35;
        for (int call = 0; call < Run.MOST_CALLS; call++) {
            boolean add = draw.nextInt(100) < (model.all.size() < 200 ? adds : 10);
            step(run + "." + call, clock, model, draw, add ? 0 : 1 + draw.nextInt(8));
        }
    }

    private static void step(String at, StageClock clock, Model model, Random draw, int kind) {
        int size = model.all.size();
        int k = near(draw, 0, size - 1);
        switch (kind) {
            case 0: {
                Instruction o = drawn(draw);
                compare(at + " add " + o, () -> o.addTo(clock), () -> model.add(o));
                break;
            }
            case 1: {
                Instruction o = drawn(draw);
                compare(at + " change " + k + " " + o, () -> o.changeIn(clock, k), () -> model.change(k, o));
                break;
            }
            case 2: {
                // Deep cuts are rare, or runs would stay short.
                int n = draw.nextInt(20) == 0 ? near(draw, 0, size) : near(draw, Math.max(0, size - 2), size);
                compare(at + " cut " + n, () -> clock.cut(n), () -> model.cut(n));
                break;
            }
            case 3: {
                int stage = near(draw, 0, 4);
                int cycle = near(draw, 0, size == 0 ? 3 : model.count(1) + 1);
                compare(at + " in " + stage + " " + cycle, () -> clock.in(stage, cycle), () -> model.in(stage, cycle));
                break;
            }
            case 4:
                compare(at + " held " + k, () -> clock.held(k), () -> model.held(k));
                break;
            case 5: {
                int register = near(draw, 1, 15);
                compare(at + " giver " + k + " " + register,
                        () -> clock.giver(k, register), () -> model.giver(k, register));
                break;
            }
            case 6: {
                int what = near(draw, 0, 3);
                compare(at + " count " + what, () -> clock.count(what), () -> model.count(what));
                break;
            }
            default: {
                int what = near(draw, 0, 6);
                compare(at + " when " + k + " " + what, () -> clock.when(k, what), () -> model.when(k, what));
                break;
            }
        }
    }

    private static Instruction drawn(Random draw) {
        int t = draw.nextBoolean() ? 1 : near(draw, 1, 12);
        int reads = draw.nextBoolean() ? draw.nextInt() : draw.nextInt() & draw.nextInt() & draw.nextInt();
        int wait = draw.nextBoolean() ? 0 : near(draw, 0, 8);
        return new Instruction(t, near(draw, 0, 15), reads, near(draw, 0, 15),
                draw.nextInt(3) == 0, wait, draw.nextInt(6) == 0);
    }

    /** Mostly one of least to most; now and then just outside, or far outside. */
    private static int near(Random draw, int least, int most) {
        int kind = draw.nextInt(60);
        if (kind == 0) {
            return draw.nextInt();
        }
        if (kind == 1) {
            return draw.nextBoolean() ? least - 1 : most + 1;
        }
        return most < least ? least : least + draw.nextInt(most - least + 1);
    }

    private static void compare(String call, IntSupplier program, IntSupplier model) {
        Check.due("run " + call, Check.answer(program), Check.answer(model));
    }
}
