import java.util.ArrayList;
import java.util.Arrays;
import java.util.HashSet;
import java.util.List;
import java.util.Set;
import java.util.function.ToIntFunction;

// What the tests of the document's boundary sentences share. Each sentence is named once, as the
// document words it, with a test of its own. NaN stands for BLANK here.
abstract class BoundaryTest {
    static final double BLANK = Double.NaN;
    static final double INF = Double.POSITIVE_INFINITY;
    static final double MAX = Double.MAX_VALUE;
    static final double LEAST = Double.MIN_VALUE;
    static final double NARROW_MAX = Float.MAX_VALUE;
    static final double NARROW_LEAST = Float.MIN_VALUE;
    static final int LOWEST = Integer.MIN_VALUE;
    static final int HIGHEST = Integer.MAX_VALUE;
    static final int[] NO_COLUMNS = {-1, 12, 13, 16, 23, LOWEST, HIGHEST};
    static final int[] NO_PLACES = {-1, 16, 17, 32, LOWEST, HIGHEST};
    static final int[] NO_CONSTANTS = {-1, 8, 16, 23, LOWEST, HIGHEST};
    static final int[] NO_EXPONENTS = {-1001, 901, LOWEST, HIGHEST};
    static final int[] NO_SPECIALS = {-1, 6, LOWEST, HIGHEST};
    static final int[] NO_COMPARISONS = {-1, 12, LOWEST, HIGHEST};
    static final int[] NO_B = {-1, 12, 15, 24, LOWEST, LOWEST + 16, HIGHEST};

    private static final int MOST_LINES = 4;
    private static final Set<String> told = new HashSet<>();
    private static String sentence = "";
    private static int wrongHere = 0;
    private static int broken = 0;

    static void says(String where, String words, Runnable test) {
        sentence = where + ": \"" + words + "\"";
        wrongHere = 0;
        if (!told.add(sentence)) {
            wrong("has two tests");
        }
        try {
            test.run();
        } catch (RuntimeException thrown) {
            wrong("a call threw " + thrown);
        }
        if (wrongHere > 0) {
            broken++;
            System.out.println("BROKEN " + sentence);
        }
    }

    static void end() {
        System.out.println(told.size() - broken + " sentences hold, " + broken + " are broken");
        if (broken > 0) {
            System.exit(1);
        }
    }

    private static void wrong(String line) {
        wrongHere++;
        if (wrongHere <= MOST_LINES) {
            System.out.println(sentence + ": " + line);
        }
    }

    static void due(String call, long got, long want) {
        if (got != want) {
            wrong(call + " answered " + got + ", due is " + want);
        }
    }

    static void due(String call, boolean got, boolean want) {
        if (got != want) {
            wrong(call + " answered " + got + ", due is " + want);
        }
    }

    static double[] row(double... numbers) {
        return numbers;
    }

    static double[] all(double number) {
        double[] numbers = new double[16];
        Arrays.fill(numbers, number);
        return numbers;
    }

    // A row that has one number alone, at one place.
    static double[] only(int place, double number) {
        double[] numbers = all(BLANK);
        numbers[place] = number;
        return numbers;
    }

    private static int specialOf(double number) {
        double[] specials = {BLANK, INF, -INF, -0.0, MAX, LEAST};
        for (int what = 0; what < specials.length; what++) {
            if (Double.compare(specials[what], number) == 0) {
                return what;
            }
        }
        return -1;
    }

    // Of a number that is m * 2^e with an m that is an int; others are a fault of the test itself.
    private static int eOf(double number) {
        int e = number == 0.0 ? 0 : Math.max(-1000, Math.getExponent(number) - 30);
        double m = Math.scalb(number, -e);
        if (m != Math.rint(m)) {
            throw new IllegalArgumentException("no m and e for " + number);
        }
        return e;
    }

    static void put(TideBook book, int column, int place, double number) {
        int what = specialOf(number);
        if (what >= 0) {
            due("special(" + column + ", " + place + ", " + what + ")", book.special(column, place, what), 1);
            return;
        }
        int e = eOf(number);
        due("set to " + number, book.set(column, place, (int) Math.scalb(number, -e), e), 1);
    }

    static void putAll(TideBook book, int column, double... numbers) {
        for (int place = 0; place < numbers.length; place++) {
            put(book, column, place, numbers[place]);
        }
    }

    static void putConstant(TideBook book, int k, double number) {
        int what = specialOf(number);
        if (what >= 0) {
            due("constantSpecial(" + k + ", " + what + ")", book.constantSpecial(k, what), 1);
            return;
        }
        int e = eOf(number);
        due("constant " + number, book.constant(k, (int) Math.scalb(number, -e), e), 1);
    }

    private static long bitsDue(double want, boolean narrow) {
        double number = Double.isNaN(want) ? 0.0 : want;
        return narrow ? (long) Float.floatToIntBits((float) number) : Double.doubleToLongBits(number);
    }

    static void dueReading(String what, TideBook book, int column, int place, double want) {
        String at = what + ": column " + column + ", place " + place;
        boolean blank = book.isBlank(column, place);
        long got = Double.doubleToLongBits(book.reading(column, place));
        if (blank != Double.isNaN(want) || got != bitsDue(want, false)) {
            wrong(at + " is " + (blank ? "BLANK" : "" + Double.longBitsToDouble(got)) + ", due is "
                + (Double.isNaN(want) ? "BLANK" : "" + want));
        }
    }

    // The places beyond the wants are due to be BLANK.
    static void dueColumn(String what, TideBook book, int column, double... wants) {
        for (int place = 0; place < 16; place++) {
            dueReading(what, book, column, place, place < wants.length ? wants[place] : BLANK);
        }
    }

    // Column 2 is made of columns 0 and 1, which are wide; ys of one number alone are constant 5.
    private static TideBook bookOf(int f, int c, boolean narrow, double[] xs, double[] ys) {
        TideBook book = new TideBook();
        boolean fixed = ys.length == 1;
        putAll(book, 0, xs);
        if (fixed) {
            putConstant(book, 5, ys[0]);
        } else {
            putAll(book, 1, ys);
        }
        due("formula(2, " + f + ", ..)", book.formula(2, f, 0, fixed ? 21 : 1, c), 1);
        if (narrow) {
            due("width(2, true)", book.width(2, true), 1);
        }
        return book;
    }

    private static String nameOf(int f, int c, String width, double[] xs, double[] ys) {
        return "formula " + f + ", c = " + c + ", " + width + ", of " + Arrays.toString(xs) + " and " + Arrays.toString(ys);
    }

    static void wide(int f, int c, double[] xs, double[] ys, double... wants) {
        dueColumn(nameOf(f, c, "wide", xs, ys), bookOf(f, c, false, xs, ys), 2, wants);
    }

    static void narrow(int f, int c, double[] xs, double[] ys, double... wants) {
        dueColumn(nameOf(f, c, "narrow", xs, ys), bookOf(f, c, true, xs, ys), 2, wants);
    }

    static void both(int f, int c, double[] xs, double[] ys, double... wants) {
        wide(f, c, xs, ys, wants);
        narrow(f, c, xs, ys, wants);
    }

    // A book with something of everything, so that whatever a call does to it can be seen: two
    // inputs of either width, a blank one, a formula, and one column for each constant.
    static TideBook fullBook() {
        TideBook book = new TideBook();
        putAll(book, 0, 1.5, -0.0, INF, BLANK, 16777217);
        book.width(1, true);
        putAll(book, 1, 2, -INF, 0.5);
        book.set(1, 15, 9, 0);
        book.formula(3, 9, 0, 1, 0);
        for (int k = 0; k < 8; k++) {
            book.constant(k, k + 1, 0);
            book.formula(4 + k, 18, 2, 16 + k, 0);
        }
        book.alarm(0, 0, 1);
        book.ring();
        return book;
    }

    private static void lookAt(TideBook book, List<String> lines) {
        for (int what = 0; what < 3; what++) {
            lines.add("told(12, " + what + ") " + book.told(12, what));
            lines.add("alarmed(0, " + what + ") " + book.alarmed(0, what));
        }
        for (int column = 0; column < 12; column++) {
            for (int what = 0; what < 4; what++) {
                lines.add("told(" + column + ", " + what + ") " + book.told(column, what));
            }
            // The columns of the constants are the same at all places.
            for (int place = 0; place < 16; place += column < 4 ? 1 : 15) {
                lines.add("isBlank(" + column + ", " + place + ") " + book.isBlank(column, place));
                lines.add("bits(" + column + ", " + place + ") " + book.bits(column, place));
            }
        }
    }

    // All that can be seen of a full book, also behind one back().
    private static List<String> seenOf(TideBook book) {
        List<String> lines = new ArrayList<>();
        lookAt(book, lines);
        lines.add("back() " + book.back());
        lookAt(book, lines);
        return lines;
    }

    // The call is refused by its answer, and the book is afterwards as if it had not been called.
    static void refused(String call, int answer, ToIntFunction<TideBook> made) {
        TideBook book = fullBook();
        due(call, made.applyAsInt(book), answer);
        List<String> got = seenOf(book);
        List<String> want = seenOf(fullBook());
        for (int i = 0; i < want.size(); i++) {
            if (!got.get(i).equals(want.get(i))) {
                wrong("after " + call + " stands " + got.get(i) + ", due is " + want.get(i));
            }
        }
    }
}
