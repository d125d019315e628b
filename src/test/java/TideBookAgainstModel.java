import java.util.ArrayDeque;
import java.util.ArrayList;
import java.util.Arrays;
import java.util.Deque;
import java.util.List;

// Long runs of calls, the same ones each time, against a model that is as plain as can be: it keeps
// whole copies for back(), reckons every column anew at each look, and uses the library's floats.
public final class TideBookAgainstModel {
    private static final int BOOKS = 2000;
    private static final int CALLS = 512;
    private static final int MOST_SHOWN = 20;

    private static int wrong = 0;

    /** The book's state that back() restores; NaN is BLANK. */
    private static final class State {
        final double[][] inputs = new double[12][16];
        final double[] constants = new double[8];
        final boolean[] narrow = new boolean[12];
        final int[][] formulas = new int[12][];

        State() {
            for (double[] row : inputs) {
                Arrays.fill(row, Double.NaN);
            }
            Arrays.fill(constants, Double.NaN);
        }

        State copy() {
            State other = new State();
            for (int i = 0; i < 12; i++) {
                System.arraycopy(inputs[i], 0, other.inputs[i], 0, 16);
                other.narrow[i] = narrow[i];
                other.formulas[i] = formulas[i];
            }
            System.arraycopy(constants, 0, other.constants, 0, 8);
            return other;
        }

        double[] column(int k) {
            if (formulas[k] == null) {
                return inputs[k].clone();
            }
            int[] formula = formulas[k];
            double[] x = column(formula[1]);
            double[] y = second(formula[2]);
            return narrow[k] ? narrowColumn(formula[0], x, y, formula[3]) : wideColumn(formula[0], x, y, formula[3]);
        }

        double[] second(int b) {
            if (b < 16) {
                return column(b);
            }
            double[] all = new double[16];
            Arrays.fill(all, constants[b - 16]);
            return all;
        }
    }

    private static boolean so(int c, double x, double y) {
        switch (c) {
            case 0: return x < y;
            case 1: return x <= y;
            case 2: return x > y;
            case 3: return x >= y;
            case 4: return x == y;
            case 5: return x != y;
            case 6: return !(x < y);
            case 7: return !(x <= y);
            case 8: return !(x > y);
            case 9: return !(x >= y);
            case 10: return !(x == y);
            default: return !(x != y);
        }
    }

    // What the two widths have in common: no rounding happens here.
    private static double shared(int f, double[] x, double[] y, int c, int i) {
        switch (f) {
            case 0: return x[i];
            case 1: return Math.abs(x[i]);
            case 2: return Math.floor(x[i]);
            case 3: return Math.ceil(x[i]);
            case 4: return Math.rint(x[i]);
            case 5: return Math.signum(x[i]);
            case 8: return -x[i];
            case 14: return Math.min(x[i], y[i]);
            case 15: return Math.max(x[i], y[i]);
            case 16: return Double.isNaN(y[i]) ? Double.NaN : Math.copySign(x[i], y[i]);
            case 17: return so(c, x[i], y[i]) ? x[i] : Double.NaN;
            case 18: return Double.isNaN(x[i]) ? y[i] : x[i];
            case 19: return i == 0 || i == 15 ? Double.NaN : middle(x[i - 1], x[i], x[i + 1]);
            case 20: return sorted(x, i + 1).length == 0 ? Double.NaN : sorted(x, i + 1)[sorted(x, i + 1).length - 1];
            case 21: return sorted(x, i + 1).length == 0 ? Double.NaN : sorted(x, i + 1)[0];
            case 22: return i < sorted(x, 16).length ? sorted(x, 16)[i] : Double.NaN;
            case 23: return Double.isNaN(x[i]) ? Double.NaN : Arrays.stream(x).filter(v -> v < x[i]).count();
            default: return countSo(c, x, y, i);
        }
    }

    private static double[] sorted(double[] x, int count) {
        return Arrays.stream(x).limit(count).filter(v -> !Double.isNaN(v)).sorted().toArray();
    }

    private static double middle(double p, double q, double r) {
        double[] three = {p, q, r};
        Arrays.sort(three);
        return Double.isNaN(three[2]) ? Double.NaN : three[1];
    }

    private static double countSo(int c, double[] x, double[] y, int i) {
        int count = 0;
        for (int j = 0; j <= i; j++) {
            count += so(c, x[j], y[j]) ? 1 : 0;
        }
        return count;
    }

    private static double[] wideColumn(int f, double[] x, double[] y, int c) {
        double[] out = new double[16];
        for (int i = 0; i < 16; i++) {
            switch (f) {
                case 6: out[i] = x[i] / 2; break;
                case 7: out[i] = x[i] * 2; break;
                case 9: out[i] = x[i] + y[i]; break;
                case 10: out[i] = x[i] - y[i]; break;
                case 11: out[i] = x[i] * y[i]; break;
                case 12: out[i] = x[i] / y[i]; break;
                case 13: out[i] = x[i] % y[i]; break;
                case 24: out[i] = i == 0 ? Double.NaN : x[i] - x[i - 1]; break;
                case 26: out[i] = y[i] == 0 || Double.isInfinite(y[i]) ? Double.NaN : Math.rint(x[i] / y[i]) * y[i]; break;
                default: out[i] = shared(f, x, y, c, i); break;
            }
        }
        return out;
    }

    private static double[] narrowColumn(int f, double[] wideX, double[] wideY, int c) {
        double[] out = new double[16];
        float[] x = new float[16];
        float[] y = new float[16];
        double[] sharedX = new double[16];
        double[] sharedY = new double[16];
        for (int i = 0; i < 16; i++) {
            sharedX[i] = x[i] = (float) wideX[i];
            sharedY[i] = y[i] = (float) wideY[i];
        }
        for (int i = 0; i < 16; i++) {
            switch (f) {
                case 6: out[i] = x[i] / 2f; break;
                case 7: out[i] = x[i] * 2f; break;
                case 9: out[i] = x[i] + y[i]; break;
                case 10: out[i] = x[i] - y[i]; break;
                case 11: out[i] = x[i] * y[i]; break;
                case 12: out[i] = x[i] / y[i]; break;
                case 13: out[i] = x[i] % y[i]; break;
                case 24: out[i] = i == 0 ? Double.NaN : x[i] - x[i - 1]; break;
                case 26: out[i] = y[i] == 0 || Float.isInfinite(y[i]) ? Double.NaN : (float) Math.rint(x[i] / y[i]) * y[i]; break;
                default: out[i] = shared(f, sharedX, sharedY, c, i); break;
            }
        }
        return out;
    }

    private static final class AlarmModel {
        int column;
        int c;
        int b;
        boolean looked;
        boolean[] held = new boolean[16];
        boolean[] rang = new boolean[16];
    }

    private static final class Model {
        State state = new State();
        final Deque<State> olds = new ArrayDeque<>();
        final List<AlarmModel> alarms = new ArrayList<>();
        int rings = 0;

        private static boolean in(int value, int low, int high) {
            return low <= value && value <= high;
        }

        private void keep() {
            olds.push(state.copy());
        }

        private static double special(int what, boolean narrow) {
            switch (what) {
                case 0: return Double.NaN;
                case 1: return Double.POSITIVE_INFINITY;
                case 2: return Double.NEGATIVE_INFINITY;
                case 3: return -0.0;
                case 4: return narrow ? Float.MAX_VALUE : Double.MAX_VALUE;
                default: return narrow ? Float.MIN_VALUE : Double.MIN_VALUE;
            }
        }

        private double brought(int column, double number) {
            return state.narrow[column] ? (float) number : number;
        }

        private boolean isOpen(int column, int place) {
            return in(column, 0, 11) && in(place, 0, 15) && state.formulas[column] == null;
        }

        int set(int column, int place, int m, int e) {
            if (!isOpen(column, place) || !in(e, -1000, 900)) return 0;
            keep();
            state.inputs[column][place] = brought(column, Math.scalb((double) m, e));
            return 1;
        }

        int special(int column, int place, int what) {
            if (!isOpen(column, place) || !in(what, 0, 5)) return 0;
            keep();
            state.inputs[column][place] = special(what, state.narrow[column]);
            return 1;
        }

        int constant(int k, int m, int e) {
            if (!in(k, 0, 7) || !in(e, -1000, 900)) return 0;
            keep();
            state.constants[k] = Math.scalb((double) m, e);
            return 1;
        }

        int constantSpecial(int k, int what) {
            if (!in(k, 0, 7) || !in(what, 0, 5)) return 0;
            keep();
            state.constants[k] = special(what, false);
            return 1;
        }

        int formula(int column, int f, int a, int b, int c) {
            if (!in(column, 0, 11) || !in(f, 0, 26) || !in(a, 0, column - 1) || !in(c, 0, 11)) return 0;
            if (!in(b, 0, column - 1) && !in(b, 16, 23)) return 0;
            keep();
            state.formulas[column] = new int[] {f, a, b, c};
            return 1;
        }

        int input(int column) {
            if (!in(column, 0, 11) || state.formulas[column] == null) return 0;
            keep();
            state.inputs[column] = state.column(column);
            state.formulas[column] = null;
            return 1;
        }

        int width(int column, boolean narrow) {
            if (!in(column, 0, 11) || state.narrow[column] == narrow) return 0;
            keep();
            state.narrow[column] = narrow;
            for (int i = 0; i < 16; i++) {
                state.inputs[column][i] = brought(column, state.inputs[column][i]);
            }
            return 1;
        }

        int back() {
            if (olds.isEmpty()) return -1;
            state = olds.pop();
            return olds.size();
        }

        int alarm(int column, int c, int b) {
            if (!in(column, 0, 11) || !in(c, 0, 11) || alarms.size() == 10) return -1;
            if (!in(b, 0, 11) && !in(b, 16, 23)) return -1;
            AlarmModel alarm = new AlarmModel();
            alarm.column = column;
            alarm.c = c;
            alarm.b = b;
            alarms.add(alarm);
            return alarms.size() - 1;
        }

        int ring() {
            rings++;
            int ringing = 0;
            for (AlarmModel alarm : alarms) {
                double[] own = state.column(alarm.column);
                double[] other = state.second(alarm.b);
                alarm.looked = true;
                for (int i = 0; i < 16; i++) {
                    boolean holds = so(alarm.c, own[i], other[i]);
                    alarm.rang[i] = holds && !alarm.held[i];
                    alarm.held[i] = holds;
                    ringing += alarm.rang[i] ? 1 : 0;
                }
            }
            return ringing;
        }

        double look(int column, int place) {
            return in(column, 0, 11) && in(place, 0, 15) ? state.column(column)[place] : 0.0;
        }

        long reading(int column, int place) {
            double number = look(column, place);
            return Double.doubleToLongBits(Double.isNaN(number) ? 0.0 : number);
        }

        long bits(int column, int place) {
            double number = look(column, place);
            if (Double.isNaN(number) || !in(column, 0, 11)) return 0;
            return state.narrow[column] ? Float.floatToIntBits((float) number) : Double.doubleToLongBits(number);
        }

        int compared(int column, int c, int other) {
            if (!in(column, 0, 11) || !in(c, 0, 11) || !in(other, 0, 11)) return -1;
            return (int) countSo(c, state.column(column), state.column(other), 15);
        }

        int alarmed(int alarm, int what) {
            if (!in(alarm, 0, alarms.size() - 1) || !in(what, 0, 2) || !alarms.get(alarm).looked) return -1;
            int count = 0;
            for (int i = 15; i >= 0; i--) {
                count += (what == 0 ? alarms.get(alarm).held : alarms.get(alarm).rang)[i] ? 1 : 0;
            }
            int first = 0;
            while (first < 16 && !alarms.get(alarm).rang[first]) first++;
            return what < 2 ? count : first == 16 ? -1 : first;
        }

        int told(int column, int what) {
            if (column == 12) return what == 0 ? olds.size() : what == 1 ? alarms.size() : what == 2 ? rings : -1;
            if (!in(column, 0, 11) || !in(what, 0, 3)) return -1;
            int[] formula = state.formulas[column];
            if (what == 0) return formula == null ? 0 : 1;
            if (what == 1) return state.narrow[column] ? 1 : 0;
            if (what == 2) return (int) Arrays.stream(state.column(column)).filter(Double::isNaN).count();
            return formula == null ? -1 : formula[0];
        }
    }

    /** The arguments of the calls: the same ones in every run of this test. */
    private static final class Source {
        private long seed;

        Source(long seed) {
            this.seed = seed;
        }

        int below(int bound) {
            seed = seed * 6364136223846793005L + 1442695040888963407L;
            return (int) ((seed >>> 33) % bound);
        }

        private int wild() {
            int[] wilds = {Integer.MIN_VALUE, Integer.MAX_VALUE, -1, 12, 13, 16, 24, 27, 100, -17};
            return wilds[below(wilds.length)];
        }

        // Mostly what there is, sometimes just beyond, seldom far beyond it.
        int upTo(int last) {
            int way = below(60);
            return way == 0 ? wild() : way == 1 ? -1 : way == 2 ? last + 1 : below(last + 1);
        }

        int m() {
            switch (below(6)) {
                case 0: return below(9) - 4;
                case 1: return below(33) - 16;
                case 2: return (16777216 + below(9) - 4) * (below(2) == 0 ? 1 : -1);
                case 3: return (1 << below(32)) - below(2);
                default: return below(Integer.MAX_VALUE) * (below(2) == 0 ? 1 : -1);
            }
        }

        int e() {
            switch (below(8)) {
                case 0: return below(1905) - 1002;
                case 1: return -1000 + below(3);
                case 2: return 900 - below(3);
                case 3: return below(60) - 180;
                case 4: return 90 + below(12);
                default: return below(7) - 3;
            }
        }

        int second(int column) {
            return below(3) == 0 ? 16 + upTo(7) : upTo(column);
        }
    }

    private static void due(int run, int number, String call, long got, long want) {
        if (got != want) {
            wrong++;
            if (wrong <= MOST_SHOWN) {
                System.out.println("book " + run + ", call " + number + ": " + call + " answered " + got + ", due is " + want);
            }
        }
    }

    private static void change(int run, int n, TideBook book, Model model, Source source) {
        int column = source.upTo(11);
        int place = source.upTo(15);
        int what = source.upTo(5);
        int m = source.m();
        int e = source.e();
        switch (source.below(14)) {
            case 0: case 1: case 2: case 3:
                due(run, n, "set(" + column + ", " + place + ", " + m + ", " + e + ")", book.set(column, place, m, e), model.set(column, place, m, e));
                break;
            case 4: case 5:
                due(run, n, "special(" + column + ", " + place + ", " + what + ")", book.special(column, place, what), model.special(column, place, what));
                break;
            case 6:
                int k = source.upTo(7);
                due(run, n, "constant(" + k + ", " + m + ", " + e + ")", book.constant(k, m, e), model.constant(k, m, e));
                break;
            case 7:
                int special = source.upTo(7);
                due(run, n, "constantSpecial(" + special + ", " + what + ")", book.constantSpecial(special, what), model.constantSpecial(special, what));
                break;
            case 8: case 9: case 10:
                int f = source.upTo(26);
                int a = source.upTo(Math.max(0, Math.min(column, 12) - 1));
                int b = source.second(Math.max(0, Math.min(column, 12) - 1));
                int c = source.upTo(11);
                due(run, n, "formula(" + column + ", " + f + ", " + a + ", " + b + ", " + c + ")", book.formula(column, f, a, b, c), model.formula(column, f, a, b, c));
                break;
            case 11:
                due(run, n, "input(" + column + ")", book.input(column), model.input(column));
                break;
            case 12:
                boolean narrow = source.below(2) == 0;
                due(run, n, "width(" + column + ", " + narrow + ")", book.width(column, narrow), model.width(column, narrow));
                break;
            default:
                due(run, n, "back()", book.back(), model.back());
                break;
        }
    }

    private static void look(int run, int n, TideBook book, Model model, Source source) {
        int column = source.upTo(11);
        int place = source.upTo(15);
        String at = "(" + column + ", " + place + ")";
        int c = source.upTo(11);
        int other = source.upTo(11);
        int what = source.upTo(3);
        switch (source.below(12)) {
            case 0:
                int b = source.second(11);
                due(run, n, "alarm(" + column + ", " + c + ", " + b + ")", book.alarm(column, c, b), model.alarm(column, c, b));
                break;
            case 1:
                due(run, n, "ring()", book.ring(), model.ring());
                break;
            case 2:
                due(run, n, "reading" + at, Double.doubleToLongBits(book.reading(column, place)), model.reading(column, place));
                break;
            case 3:
                due(run, n, "isBlank" + at, book.isBlank(column, place) ? 1 : 0, Double.isNaN(model.look(column, place)) ? 1 : 0);
                break;
            case 4:
                due(run, n, "isMinus" + at, book.isMinus(column, place) ? 1 : 0, model.reading(column, place) < 0 ? 1 : 0);
                break;
            case 5:
                due(run, n, "compared(" + column + ", " + c + ", " + other + ")", book.compared(column, c, other), model.compared(column, c, other));
                break;
            case 6:
                int alarm = source.upTo(9);
                due(run, n, "alarmed(" + alarm + ", " + what + ")", book.alarmed(alarm, what), model.alarmed(alarm, what));
                break;
            case 7:
                int row = source.upTo(12);
                due(run, n, "told(" + row + ", " + what + ")", book.told(row, what), model.told(row, what));
                break;
            default:
                due(run, n, "bits" + at, book.bits(column, place), model.bits(column, place));
                break;
        }
    }

    // Full input columns, so that formulas meet numbers more often than BLANKs.
    private static int fill(int run, TideBook book, Model model, Source source) {
        int n = 0;
        for (int column = 0; column < 2; column++) {
            for (int place = 0; place < 16; place++) {
                int m = source.m();
                int e = source.e();
                due(run, n++, "set", book.set(column, place, m, e), model.set(column, place, m, e));
            }
        }
        return n;
    }

    public static void main(String[] args) {
        for (int run = 0; run < BOOKS; run++) {
            Source source = new Source(run);
            TideBook book = new TideBook();
            Model model = new Model();
            int n = run % 2 == 0 ? fill(run, book, model, source) : 0;
            for (; n < CALLS; n++) {
                if (source.below(3) == 0) {
                    change(run, n, book, model, source);
                } else {
                    look(run, n, book, model, source);
                }
            }
        }
        System.out.println(wrong == 0 ? "all answers are as due" : wrong + " answers are not as due");
        if (wrong != 0) {
            System.exit(1);
        }
    }
}
