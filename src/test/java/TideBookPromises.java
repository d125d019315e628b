import java.util.Arrays;

// The promises 1 to 18 of the document, each with ordinary inputs, its edges and wrong inputs,
// and every formula in a wide and in a narrow column. NaN stands for BLANK in this file.
public final class TideBookPromises {
    private static final double BLANK = Double.NaN;
    private static final double INF = Double.POSITIVE_INFINITY;
    private static final double MAX = Double.MAX_VALUE;
    private static final double LEAST = Double.MIN_VALUE;
    private static final double NARROW_MAX = Float.MAX_VALUE;
    private static final double NARROW_LEAST = Float.MIN_VALUE;
    private static final int[] NO_COLUMNS = {-1, 12, 13, 16, 23, Integer.MIN_VALUE, Integer.MAX_VALUE};
    private static final int[] NO_PLACES = {-1, 16, 17, Integer.MIN_VALUE, Integer.MAX_VALUE};
    private static final int[] NO_EXPONENTS = {-1001, 901, Integer.MIN_VALUE, Integer.MAX_VALUE};
    private static final int[] NO_COMPARISONS = {-1, 12, Integer.MIN_VALUE, Integer.MAX_VALUE};
    private static final int[] NO_SPECIALS = {-1, 6, Integer.MIN_VALUE, Integer.MAX_VALUE};
    private static final int[] NO_CONSTANTS = {-1, 8, 16, Integer.MIN_VALUE, Integer.MAX_VALUE};

    private static int wrong = 0;

    private static void due(String call, long got, long want) {
        if (got != want) {
            wrong++;
            System.out.println(call + " answered " + got + ", due is " + want);
        }
    }

    private static void due(String call, boolean got, boolean want) {
        due(call, got ? 1L : 0L, want ? 1L : 0L);
    }

    private static long bitsDue(double want, boolean narrow) {
        double number = Double.isNaN(want) ? 0.0 : want;
        return narrow ? Float.floatToIntBits((float) number) : Double.doubleToLongBits(number);
    }

    // All four calls that tell of one reading.
    private static void dueReading(String what, TideBook book, int column, int place, double want) {
        double number = Double.isNaN(want) ? 0.0 : want;
        String at = what + " at (" + column + ", " + place + "), ";
        double got = book.reading(column, place);
        due(at + "reading() = " + got + ", not " + number + ": its bits", Double.doubleToLongBits(got), Double.doubleToLongBits(number));
        due(at + "isBlank()", book.isBlank(column, place), Double.isNaN(want));
        due(at + "isMinus()", book.isMinus(column, place), Double.doubleToLongBits(number) < 0);
        due(at + "bits()", book.bits(column, place), bitsDue(want, book.told(column, 1) == 1));
    }

    private static double wantAt(int place, double[] wants) {
        return place < wants.length ? wants[place] : BLANK;
    }

    // No more calls than these, since a book is good for 512.
    private static void dueColumn(String what, TideBook book, int column, double... wants) {
        boolean narrow = book.told(column, 1) == 1;
        for (int i = 0; i < 16; i++) {
            String at = what + " at (" + column + ", " + i + "), ";
            due(at + "isBlank()", book.isBlank(column, i), Double.isNaN(wantAt(i, wants)));
            due(at + "bits()", book.bits(column, i), bitsDue(wantAt(i, wants), narrow));
        }
    }

    // Brings a number into the book by the calls that there are for it.
    private static void put(TideBook book, int column, int place, double number) {
        int what = specialOf(number);
        if (what >= 0) {
            due("special(" + column + ", " + place + ", " + what + ")", book.special(column, place, what), 1);
            return;
        }
        int e = eOf(number);
        due("set " + number, book.set(column, place, (int) Math.scalb(number, -e), e), 1);
    }

    private static void putConstant(TideBook book, int k, double number) {
        int what = specialOf(number);
        if (what >= 0) {
            due("constantSpecial(" + k + ", " + what + ")", book.constantSpecial(k, what), 1);
            return;
        }
        int e = eOf(number);
        due("constant " + number, book.constant(k, (int) Math.scalb(number, -e), e), 1);
    }

    private static int specialOf(double number) {
        double[] specials = {BLANK, INF, -INF, -0.0, MAX, LEAST};
        for (int i = 0; i < specials.length; i++) {
            if (Double.compare(specials[i], number) == 0) {
                return i;
            }
        }
        return -1;
    }

    private static int eOf(double number) {
        int e = Math.max(-1000, Math.getExponent(number) - 30);
        double m = Math.scalb(number, -e);
        if (m != Math.rint(m)) {
            throw new IllegalArgumentException("no m and e for " + number);
        }
        return number == 0 ? 0 : e;
    }

    private static void putAll(TideBook book, int column, double... numbers) {
        for (int i = 0; i < numbers.length; i++) {
            put(book, column, i, numbers[i]);
        }
    }

    private static double[] row(double... numbers) {
        return numbers;
    }

    // Column 2 is made of columns 0 and 1, both wide; ys of one number alone is a constant.
    private static void dueFormula(int f, boolean narrow, int c, double[] xs, double[] ys, double... wants) {
        TideBook book = new TideBook();
        putAll(book, 0, xs);
        boolean fixed = ys.length == 1;
        if (fixed) {
            putConstant(book, 5, ys[0]);
        } else {
            putAll(book, 1, ys);
        }
        due("formula(2, " + f + ", ..)", book.formula(2, f, 0, fixed ? 21 : 1, c), 1);
        if (narrow) {
            book.width(2, true);
        }
        String what = "formula " + f + (narrow ? " narrow " : " wide ") + Arrays.toString(xs) + " " + Arrays.toString(ys) + " c=" + c;
        for (int i = 0; i < 16; i++) {
            dueReading(what, book, 2, i, wantAt(i, wants));
        }
    }

    private static void dueBoth(int f, int c, double[] xs, double[] ys, double... wants) {
        dueFormula(f, false, c, xs, ys, wants);
        dueFormula(f, true, c, xs, ys, wants);
    }

    private static double[] same(int count, double number) {
        double[] all = new double[count];
        Arrays.fill(all, number);
        return all;
    }

    private static void promise1NewObject() {
        TideBook columns = new TideBook();
        for (int column = 0; column < 12; column++) {
            dueColumn("new", columns, column);
            due("told(, 0)", columns.told(column, 0), 0);
            due("told(, 1)", columns.told(column, 1), 0);
            due("told(, 2)", columns.told(column, 2), 16);
            due("told(, 3)", columns.told(column, 3), -1);
        }
        TideBook book = new TideBook();
        for (int what = 0; what < 3; what++) {
            due("told(12, " + what + ")", book.told(12, what), 0);
        }
        due("back()", book.back(), -1);
        due("alarmed(0, 0)", book.alarmed(0, 0), -1);
        due("ring()", book.ring(), 0);
        for (int k = 0; k < 8; k++) {
            due("formula of constant", book.formula(1 + k, 18, 0, 16 + k, 0), 1);
            dueColumn("a new constant", book, 1 + k);
        }
    }

    private static void promise2Set() {
        TideBook book = new TideBook();
        due("set", book.set(0, 0, 3, -1), 1);
        due("set", book.set(11, 15, Integer.MIN_VALUE, 900), 1);
        due("set", book.set(11, 14, Integer.MAX_VALUE, 900), 1);
        due("set", book.set(11, 13, -1, -1000), 1);
        due("set", book.set(11, 12, 0, 900), 1);
        dueReading("set", book, 0, 0, 1.5);
        dueReading("set", book, 11, 15, -0x1p931);
        dueReading("set", book, 11, 14, (double) Integer.MAX_VALUE * 0x1p900);
        dueReading("set", book, 11, 13, -0x1p-1000);
        dueReading("set", book, 11, 12, 0.0);
        for (int column : NO_COLUMNS) {
            due("set(" + column + ")", book.set(column, 0, 1, 0), 0);
        }
        for (int place : NO_PLACES) {
            due("set(0, " + place + ")", book.set(0, place, 1, 0), 0);
        }
        for (int e : NO_EXPONENTS) {
            due("set(, , , " + e + ")", book.set(0, 0, 1, e), 0);
        }
        dueColumn("refused", book, 0, 1.5);
        due("told(12, 0)", book.told(12, 0), 5);
        book.formula(1, 0, 0, 16, 0);
        due("set of a formula's column", book.set(1, 0, 1, 0), 0);
        due("told(12, 0)", book.told(12, 0), 6);
    }

    private static void promise2SetNarrow() {
        TideBook book = new TideBook();
        book.width(3, true);
        int[][] ms = {{16777217, 0}, {16777219, 0}, {-16777217, 0}, {1, 128}, {-1, 128}, {1, -150}, {3, -150}, {-1, -150},
            {-1, -151}, {3, -151}, {33554431, 103}, {67108863, 102}, {67108861, 102}, {1, -149}, {-5, -151}, {0, 5}};
        double[] wants = {16777216, 16777220, -16777216, INF, -INF, 0.0, 2 * NARROW_LEAST, -0.0,
            -0.0, NARROW_LEAST, INF, INF, NARROW_MAX, NARROW_LEAST, -NARROW_LEAST, 0.0};
        for (int i = 0; i < 16; i++) {
            due("set", book.set(3, i, ms[i][0], ms[i][1]), 1);
        }
        dueColumn("set narrow", book, 3, wants);
    }

    private static void promise3Special() {
        TideBook book = new TideBook();
        book.width(1, true);
        for (int column = 0; column < 2; column++) {
            for (int what = 0; what < 6; what++) {
                book.set(column, what, 7, 0);
                due("special", book.special(column, what, what), 1);
            }
        }
        dueColumn("special", book, 0, BLANK, INF, -INF, -0.0, MAX, LEAST);
        dueColumn("special", book, 1, BLANK, INF, -INF, -0.0, NARROW_MAX, NARROW_LEAST);
        for (int column : NO_COLUMNS) {
            due("special(" + column + ")", book.special(column, 0, 1), 0);
        }
        for (int place : NO_PLACES) {
            due("special(0, " + place + ")", book.special(0, place, 1), 0);
        }
        for (int what : NO_SPECIALS) {
            due("special(, , " + what + ")", book.special(0, 0, what), 0);
        }
        dueReading("refused", book, 0, 0, BLANK);
        book.formula(2, 8, 0, 16, 0);
        due("special of a formula's column", book.special(2, 1, 0), 0);
        dueColumn("refused", book, 2, BLANK, -INF, INF, 0.0, -MAX, -LEAST);
        due("told(12, 0)", book.told(12, 0), 26);
    }

    private static void promise4Constant() {
        TideBook book = new TideBook();
        int[][] ms = {{3, -1}, {-3, 900}, {1, -1000}, {0, 0}, {Integer.MIN_VALUE, 0}, {16777217, 0}, {-1, 0}, {9, 9}};
        double[] wants = {1.5, -0x3p900, 0x1p-1000, 0.0, -2147483648.0, 16777217, -1, 4608};
        for (int k = 0; k < 8; k++) {
            due("constant", book.constant(k, ms[k][0], ms[k][1]), 1);
            book.formula(1 + k, 18, 0, 16 + k, 0);
        }
        for (int k = 0; k < 8; k++) {
            dueColumn("constant", book, 1 + k, same(16, wants[k]));
        }
        for (int k : NO_CONSTANTS) {
            due("constant(" + k + ")", book.constant(k, 1, 0), 0);
        }
        for (int e : NO_EXPONENTS) {
            due("constant(, , " + e + ")", book.constant(0, 1, e), 0);
        }
        dueReading("refused", book, 1, 0, 1.5);
        due("told(12, 0)", book.told(12, 0), 16);
        due("constant", book.constant(0, 4, 0), 1);
        dueReading("another constant", book, 1, 15, 4);
    }

    private static void promise5ConstantSpecial() {
        TideBook book = new TideBook();
        double[] wants = {BLANK, INF, -INF, -0.0, MAX, LEAST};
        for (int what = 0; what < 6; what++) {
            book.constant(what, 5, 0);
            due("constantSpecial", book.constantSpecial(what, what), 1);
            book.formula(1 + what, 18, 0, 16 + what, 0);
            dueColumn("constantSpecial", book, 1 + what, same(16, wants[what]));
        }
        for (int k : NO_CONSTANTS) {
            due("constantSpecial(" + k + ")", book.constantSpecial(k, 1), 0);
        }
        for (int what : NO_SPECIALS) {
            due("constantSpecial(, " + what + ")", book.constantSpecial(0, what), 0);
        }
        due("told(12, 0)", book.told(12, 0), 18);
        book.width(5, true);
        book.width(6, true);
        dueReading("brought to narrow", book, 5, 0, INF);
        dueReading("brought to narrow", book, 6, 0, 0.0);
        due("constantSpecial", book.constantSpecial(7, 1), 1);
    }

    private static void promise6Formula() {
        TideBook book = new TideBook();
        for (int column : NO_COLUMNS) {
            due("formula(" + column + ")", book.formula(column, 0, 0, 16, 0), 0);
        }
        due("formula(0)", book.formula(0, 0, 0, 16, 0), 0);
        due("formula(0)", book.formula(0, 0, -1, 16, 0), 0);
        for (int f : new int[] {-1, 27, Integer.MIN_VALUE, Integer.MAX_VALUE}) {
            due("formula(, " + f + ")", book.formula(5, f, 0, 16, 0), 0);
        }
        for (int a : new int[] {-1, 5, 6, 11, 12, 16, Integer.MIN_VALUE, Integer.MAX_VALUE}) {
            due("formula(, , " + a + ")", book.formula(5, 0, a, 16, 0), 0);
        }
        for (int b : new int[] {-1, 5, 6, 11, 12, 15, 24, Integer.MIN_VALUE, Integer.MAX_VALUE}) {
            due("formula(, , , " + b + ")", book.formula(5, 0, 0, b, 0), 0);
        }
        for (int c : NO_COMPARISONS) {
            due("formula(, , , , " + c + ")", book.formula(5, 0, 0, 16, c), 0);
        }
        due("told(12, 0)", book.told(12, 0), 0);
        due("told(5, 0)", book.told(5, 0), 0);
        due("formula", book.formula(5, 26, 4, 4, 11), 1);
        due("formula", book.formula(11, 0, 10, 23, 0), 1);
        due("formula", book.formula(11, 0, 0, 0, 0), 1);
        due("formula", book.formula(11, 0, 0, 16, 0), 1);
        due("told(5, 3)", book.told(5, 3), 26);
        due("told(11, 3)", book.told(11, 3), 0);
        due("told(12, 0)", book.told(12, 0), 4);
    }

    private static void promise6FormulasFollow() {
        TideBook book = new TideBook();
        for (int column = 1; column < 12; column++) {
            book.formula(column, 9, column - 1, column - 1, 0);
        }
        book.set(0, 3, 3, 0);
        dueReading("a chain of formulas", book, 11, 3, 3 * 2048);
        book.set(0, 3, 5, 0);
        dueReading("a chain of formulas", book, 11, 3, 5 * 2048);
        book.formula(6, 8, 5, 16, 0);
        dueReading("another formula", book, 11, 3, -5 * 1024);
        book.formula(6, 9, 5, 16, 0);
        dueReading("a constant that is blank", book, 11, 3, BLANK);
        book.constant(0, -1, 0);
        dueReading("a constant", book, 11, 3, (5 * 32 - 1) * 32);
        book.width(2, true);
        book.set(0, 3, 16777217, 0);
        dueReading("a narrow column between", book, 3, 3, 0x1p27);
        dueReading("a narrow column between", book, 1, 3, 2 * 16777217.0);
        book.formula(3, 9, 2, 1, 0);
        dueReading("b's own width", book, 3, 3, 0x1p26 + 2 * 16777217.0);
    }

    // Each of a, b and a constant alone reaches a column, also past a column that has nothing of it.
    private static void promise6FormulasFollowByEachWay() {
        TideBook book = new TideBook();
        book.formula(3, 8, 0, 16, 0);
        book.formula(6, 18, 1, 3, 0);
        book.formula(9, 18, 2, 6, 0);
        book.formula(11, 9, 9, 17, 0);
        dueReading("nothing yet", book, 11, 4, BLANK);
        book.set(0, 4, 5, 0);
        book.constant(1, 1, 0);
        dueReading("a alone", book, 3, 4, -5);
        dueReading("b alone", book, 6, 4, -5);
        dueReading("a constant", book, 11, 4, -4);
        book.set(0, 4, 6, 0);
        dueReading("a alone, then b twice, then a", book, 11, 4, -5);
        book.constant(1, 2, 0);
        dueReading("a constant alone", book, 11, 4, -4);
        book.set(1, 4, 1, 0);
        book.constant(1, 3, 0);
        book.set(5, 5, 1, 0);
        book.back();
        dueReading("two changes and one taken back, unlooked at", book, 11, 4, 4);
        book.back();
        book.back();
        dueReading("all taken back", book, 11, 4, -4);
    }

    private static void promise7Input() {
        TideBook book = new TideBook();
        putAll(book, 0, 1, 16777217, BLANK, -0.0);
        book.formula(1, 8, 0, 16, 0);
        book.width(1, true);
        due("input", book.input(1), 1);
        book.set(0, 0, 9, 0);
        dueColumn("an input again", book, 1, -1, -16777216, BLANK, 0.0);
        due("told(1, 0)", book.told(1, 0), 0);
        due("told(1, 1)", book.told(1, 1), 1);
        due("told(1, 3)", book.told(1, 3), -1);
        due("set", book.set(1, 2, 4, 0), 1);
        dueColumn("an input again", book, 1, -1, -16777216, 4, 0.0);
        due("input of an input", book.input(1), 0);
        due("input of an input", book.input(0), 0);
        for (int column : NO_COLUMNS) {
            due("input(" + column + ")", book.input(column), 0);
        }
        due("told(12, 0)", book.told(12, 0), 9);
        due("back", book.back(), 8);
        due("back", book.back(), 7);
        due("back", book.back(), 6);
        book.set(0, 0, 8, 0);
        dueColumn("a formula again", book, 1, -8, -16777216, BLANK, 0.0);
    }

    private static void promise8Width() {
        TideBook book = new TideBook();
        putAll(book, 0, 16777217, 0x1p200, -0x1p200, -0x1p-200, BLANK, 1.5, -0.0, LEAST, MAX);
        due("width", book.width(0, false), 0);
        due("width", book.width(0, true), 1);
        due("width", book.width(0, true), 0);
        dueColumn("narrow", book, 0, 16777216, INF, -INF, -0.0, BLANK, 1.5, -0.0, 0.0, INF);
        due("width", book.width(0, false), 1);
        dueColumn("wide again", book, 0, 16777216, INF, -INF, -0.0, BLANK, 1.5, -0.0, 0.0, INF);
        due("set", book.set(0, 0, 16777217, 0), 1);
        dueReading("wide again", book, 0, 0, 16777217);
        book.formula(1, 0, 0, 16, 0);
        due("width", book.width(1, true), 1);
        dueReading("a formula's column", book, 1, 0, 16777216);
        due("width", book.width(1, false), 1);
        dueReading("a formula's column", book, 1, 0, 16777217);
        for (int column : NO_COLUMNS) {
            due("width(" + column + ")", book.width(column, true), 0);
            due("width(" + column + ")", book.width(column, false), 0);
        }
        due("told(12, 0)", book.told(12, 0), 15);
    }

    private static void promise9Back() {
        TideBook book = new TideBook();
        due("back", book.back(), -1);
        putAll(book, 0, 16777217, 2);
        book.constant(0, 3, 0);
        book.set(1, 0, 77, 0);
        book.formula(1, 9, 0, 16, 0);
        book.constantSpecial(0, 1);
        book.width(1, true);
        book.input(1);
        book.width(0, true);
        book.special(0, 1, 3);
        book.special(0, 1, 3);
        due("told(12, 0)", book.told(12, 0), 11);
        due("back", book.back(), 10);
        dueColumn("special", book, 0, 16777216, -0.0);
        due("back", book.back(), 9);
        dueColumn("special back", book, 0, 16777216, 2);
        due("back", book.back(), 8);
        dueColumn("width back", book, 0, 16777217, 2);
        due("told(0, 1)", book.told(0, 1), 0);
        dueColumn("input", book, 1, INF, INF);
        due("back", book.back(), 7);
        due("told(1, 0)", book.told(1, 0), 1);
        due("back", book.back(), 6);
        due("told(1, 1)", book.told(1, 1), 0);
        due("back", book.back(), 5);
        dueColumn("constantSpecial back", book, 1, 16777220, 5);
        due("back", book.back(), 4);
        dueColumn("formula back", book, 1, 77);
        due("told(1, 0)", book.told(1, 0), 0);
        due("formula", book.formula(1, 18, 0, 16, 0), 1);
        due("back", book.back(), 4);
        due("back", book.back(), 3);
        due("back", book.back(), 2);
        due("formula", book.formula(1, 18, 0, 16, 0), 1);
        dueColumn("constant back", book, 1, 16777217, 2);
        due("back", book.back(), 2);
        due("back", book.back(), 1);
        due("back", book.back(), 0);
        due("back", book.back(), -1);
        dueColumn("all back", book, 0);
        due("told(12, 0)", book.told(12, 0), 0);
    }

    private static void promise9AllChangesCanBeTakenBack() {
        TideBook book = new TideBook();
        for (int i = 0; i < 256; i++) {
            due("set", book.set(i % 12, i % 16, i, 0), 1);
        }
        for (int i = 255; i >= 0; i--) {
            due("back", book.back(), i);
        }
        TideBook full = new TideBook();
        for (int i = 0; i < 511; i++) {
            due("set", full.set(0, 0, i, 0), 1);
        }
        due("the 512th call", full.set(0, 0, 1000, 0), 1);
    }

    private static void promise10Alarm() {
        TideBook book = new TideBook();
        for (int column : NO_COLUMNS) {
            due("alarm(" + column + ")", book.alarm(column, 0, 0), -1);
        }
        for (int c : NO_COMPARISONS) {
            due("alarm(, " + c + ")", book.alarm(0, c, 0), -1);
        }
        for (int b : new int[] {-1, 12, 15, 24, Integer.MIN_VALUE, Integer.MAX_VALUE}) {
            due("alarm(, , " + b + ")", book.alarm(0, 0, b), -1);
        }
        due("told(12, 1)", book.told(12, 1), 0);
        int[] bs = {0, 11, 16, 23, 5, 0, 1, 2, 3, 4};
        for (int i = 0; i < 10; i++) {
            due("alarm", book.alarm(i, 11 - i, bs[i]), i);
        }
        due("an eleventh alarm", book.alarm(0, 0, 0), -1);
        due("told(12, 1)", book.told(12, 1), 10);
        due("told(12, 0)", book.told(12, 0), 0);
        due("back", book.back(), -1);
        due("told(12, 1)", book.told(12, 1), 10);
        due("ten alarms", book.ring(), 6 * 16);
        due("alarmed(9, 0)", book.alarmed(9, 0), 0);
        due("alarmed(10, 0)", book.alarmed(10, 0), -1);
    }

    private static void promise11Ring() {
        TideBook book = new TideBook();
        due("ring", book.ring(), 0);
        putAll(book, 0, 1, 2, 3, 0.0, BLANK);
        putAll(book, 1, 1, 1, 9, -0.0, 5);
        book.alarm(0, 2, 1);
        book.alarm(0, 4, 0);
        due("ring", book.ring(), 1 + 4);
        due("ring", book.ring(), 0);
        book.alarm(1, 3, 16);
        book.constant(0, 5, 0);
        due("a later alarm", book.ring(), 2);
        book.set(0, 0, 8, 0);
        due("ring", book.ring(), 1);
        book.back();
        due("it holds no more", book.ring(), 0);
        book.set(0, 0, 8, 0);
        due("it holds again", book.ring(), 1);
        book.constant(0, 0, 0);
        due("by a constant", book.ring(), 3);
        book.formula(1, 8, 0, 16, 0);
        due("by a formula", book.ring(), 1);
        due("told(12, 2)", book.told(12, 2), 9);
        due("told(12, 0)", book.told(12, 0), 14);
    }

    private static void promise11RingsOfBlanks() {
        int[] sos = {0, 0, 0, 0, 0, 16, 16, 16, 16, 16, 16, 0};
        for (int c = 0; c < 12; c++) {
            TideBook book = new TideBook();
            book.alarm(3, c, 3);
            due("ring of blanks by " + c, book.ring(), sos[c]);
            TideBook other = new TideBook();
            other.constant(7, 1, 0);
            other.alarm(3, c, 23);
            due("ring of blanks and a constant by " + c, other.ring(), sos[c]);
        }
    }

    private static void promise11WideInAlarms() {
        TideBook book = new TideBook();
        book.set(0, 0, 16777217, 0);
        book.width(1, true);
        book.set(1, 0, 16777217, 0);
        book.alarm(0, 2, 1);
        book.alarm(1, 4, 0);
        due("as wide numbers", book.ring(), 1);
        due("alarmed(0, 0)", book.alarmed(0, 0), 1);
        due("alarmed(1, 0)", book.alarmed(1, 0), 0);
    }

    private static void promises12To15Readings() {
        TideBook book = new TideBook();
        putAll(book, 0, 1, -1, -0.0, INF, -INF, MAX, LEAST, 0.1f, 0x1p-1000, -0x1.fffffffcp900);
        dueColumn("wide", book, 0, 1, -1, -0.0, INF, -INF, MAX, LEAST, 0.1f, 0x1p-1000, -0x1.fffffffcp900);
        for (int column : NO_COLUMNS) {
            due("reading", Double.doubleToLongBits(book.reading(column, 0)), 0);
            due("isBlank", book.isBlank(column, 0), false);
            due("isMinus", book.isMinus(column, 0), false);
            due("bits", book.bits(column, 0), 0);
        }
        for (int place : NO_PLACES) {
            due("reading", Double.doubleToLongBits(book.reading(0, place)), 0);
            due("isBlank", book.isBlank(0, place), false);
            due("isMinus", book.isMinus(0, place), false);
            due("bits", book.bits(0, place), 0);
        }
        book.special(0, 2, 0);
        dueReading("BLANK after -0", book, 0, 2, BLANK);
        due("bits of 1", book.bits(0, 0), 0x3FF0000000000000L);
        book.width(0, true);
        due("narrow bits of -1", book.bits(0, 1), 0xFFFFFFFFBF800000L);
        due("narrow bits of 1", book.bits(0, 0), 0x3F800000L);
    }

    // Numbers of every exponent, made by halving and doubling from column to column.
    private static void promise15BitsOfEveryExponent() {
        for (int narrow = 0; narrow < 2; narrow++) {
            TideBook book = new TideBook();
            double least = narrow == 1 ? NARROW_LEAST : LEAST;
            if (narrow == 1) {
                book.width(0, true);
            }
            for (int e = -1000; e <= 900; e += 100) {
                book.set(0, 0, 1431655765, e);
                double want = Math.scalb(1431655765.0, e);
                dueReading("every exponent", book, 0, 0, narrow == 1 ? (float) want : want);
            }
            book.special(0, 1, 5);
            for (int column = 1; column < 12; column++) {
                book.formula(column, 7, column - 1, 16, 0);
                if (narrow == 1) {
                    book.width(column, true);
                }
                dueReading("doubled", book, column, 1, least * (1 << column));
            }
        }
        TideBook book = new TideBook();
        book.set(0, 0, 3, -1000);
        for (int column = 1; column < 12; column++) {
            book.formula(column, 11, column - 1, 16, 0);
        }
        book.constant(0, 1, -7);
        for (int column = 1; column < 12; column++) {
            dueReading("below the least normal one", book, column, 0, 0x3p-1000 * Math.scalb(1.0, -7 * column));
        }
    }

    private static void promise16Compared() {
        TideBook book = new TideBook();
        putAll(book, 0, 1, 2, 3, 0, 1, BLANK, INF, INF, -INF);
        putAll(book, 1, 2, 1, 3, -0.0, BLANK, 1, INF, -INF, INF);
        int[] wants = {2, 5, 2, 5, 3, 13, 14, 11, 14, 11, 13, 3};
        int[] own = {0, 8, 0, 8, 8, 8, 16, 8, 16, 8, 8, 8};
        for (int c = 0; c < 12; c++) {
            due("compared(0, " + c + ", 1)", book.compared(0, c, 1), wants[c]);
            due("compared(0, " + c + ", 0)", book.compared(0, c, 0), own[c]);
        }
        for (int c : NO_COMPARISONS) {
            due("compared(0, " + c + ", 1)", book.compared(0, c, 1), -1);
        }
        for (int column : NO_COLUMNS) {
            due("compared(" + column + ")", book.compared(column, 0, 1), -1);
            due("compared(, , " + column + ")", book.compared(0, 0, column), -1);
        }
        TideBook widths = new TideBook();
        widths.width(1, true);
        widths.set(0, 0, 16777217, 0);
        widths.set(1, 0, 16777217, 0);
        due("as wide numbers", widths.compared(0, 4, 1), 0);
        due("as wide numbers", widths.compared(1, 0, 0), 1);
        TideBook ends = new TideBook();
        ends.set(3, 15, 1, 0);
        ends.set(4, 15, 2, 0);
        ends.formula(5, 9, 3, 4, 0);
        due("at the last place", ends.compared(3, 0, 4), 1);
        due("of a formula's column", ends.compared(5, 2, 4), 1);
    }

    private static void promise17Alarmed() {
        TideBook book = new TideBook();
        putAll(book, 0, BLANK, BLANK, 1, 2, 3);
        book.alarm(0, 4, 0);
        for (int what = -1; what < 4; what++) {
            due("not looked at", book.alarmed(0, what), -1);
        }
        book.ring();
        due("held", book.alarmed(0, 0), 3);
        due("rang", book.alarmed(0, 1), 3);
        due("first", book.alarmed(0, 2), 2);
        book.set(0, 15, 1, 0);
        due("as at the latest ring", book.alarmed(0, 0), 3);
        book.alarm(0, 10, 0);
        due("not looked at", book.alarmed(1, 0), -1);
        book.ring();
        due("held", book.alarmed(0, 0), 4);
        due("rang", book.alarmed(0, 1), 1);
        due("first", book.alarmed(0, 2), 15);
        due("held", book.alarmed(1, 0), 12);
        due("first", book.alarmed(1, 2), 0);
        book.ring();
        due("held", book.alarmed(0, 0), 4);
        due("rang", book.alarmed(0, 1), 0);
        due("first", book.alarmed(0, 2), -1);
        for (int what : new int[] {-1, 3, Integer.MIN_VALUE, Integer.MAX_VALUE}) {
            due("alarmed(0, " + what + ")", book.alarmed(0, what), -1);
        }
        for (int alarm : new int[] {-1, 2, 9, 10, Integer.MIN_VALUE, Integer.MAX_VALUE}) {
            due("alarmed(" + alarm + ", 0)", book.alarmed(alarm, 0), -1);
        }
    }

    private static void promise18Told() {
        TideBook book = new TideBook();
        putAll(book, 0, 1, 2);
        book.formula(1, 24, 0, 16, 0);
        book.width(1, true);
        int[] wants = {1, 1, 15, 24};
        int[] inputs = {0, 0, 14, -1};
        for (int what = 0; what < 4; what++) {
            due("told(1, " + what + ")", book.told(1, what), wants[what]);
            due("told(0, " + what + ")", book.told(0, what), inputs[what]);
        }
        book.alarm(0, 0, 0);
        book.alarm(0, 0, 0);
        book.ring();
        due("told(12, 0)", book.told(12, 0), 4);
        due("told(12, 1)", book.told(12, 1), 2);
        due("told(12, 2)", book.told(12, 2), 1);
        due("told(12, 3)", book.told(12, 3), -1);
        for (int what : new int[] {-1, 4, Integer.MIN_VALUE, Integer.MAX_VALUE}) {
            due("told(0, " + what + ")", book.told(0, what), -1);
            due("told(12, " + what + ")", book.told(12, what), -1);
        }
        for (int column : new int[] {-1, 13, 16, Integer.MIN_VALUE, Integer.MAX_VALUE}) {
            for (int what = 0; what < 4; what++) {
                due("told(" + column + ")", book.told(column, what), -1);
            }
        }
    }

    private static void formulasOfOne() {
        double[] none = {BLANK};
        double[] xs = {2.5, -2.5, 3.5, -3.5, 0.5, -0.5, 0.0, -0.0, INF, -INF, BLANK, 7, -7, 0.25, -0.75, 8388607.5};
        dueBoth(0, 0, xs, none, xs);
        dueBoth(1, 0, xs, none, 2.5, 2.5, 3.5, 3.5, 0.5, 0.5, 0.0, 0.0, INF, INF, BLANK, 7, 7, 0.25, 0.75, 8388607.5);
        dueBoth(2, 0, xs, none, 2, -3, 3, -4, 0.0, -1, 0.0, -0.0, INF, -INF, BLANK, 7, -7, 0.0, -1, 8388607);
        dueBoth(3, 0, xs, none, 3, -2, 4, -3, 1, -0.0, 0.0, -0.0, INF, -INF, BLANK, 7, -7, 1, -0.0, 8388608);
        dueBoth(4, 0, xs, none, 2, -2, 4, -4, 0.0, -0.0, 0.0, -0.0, INF, -INF, BLANK, 7, -7, 0.0, -1, 8388608);
        dueBoth(5, 0, xs, none, 1, -1, 1, -1, 1, -1, 0.0, -0.0, 1, -1, BLANK, 1, -1, 1, -1, 1);
        dueBoth(6, 0, xs, none, 1.25, -1.25, 1.75, -1.75, 0.25, -0.25, 0.0, -0.0, INF, -INF, BLANK, 3.5, -3.5, 0.125, -0.375, 4194303.75);
        dueBoth(7, 0, xs, none, 5, -5, 7, -7, 1, -1, 0.0, -0.0, INF, -INF, BLANK, 14, -14, 0.5, -1.5, 16777215);
        dueBoth(8, 0, xs, none, -2.5, 2.5, -3.5, 3.5, -0.5, 0.5, -0.0, 0.0, -INF, INF, BLANK, -7, 7, -0.25, 0.75, -8388607.5);
    }

    private static void formulasOfOneAtTheEdges() {
        double[] none = {1};
        double[] xs = {MAX, LEAST, 0x1p-1000, -0x1p-1000, 0x1p-149, -0x1p-149, 0x1.8p-148, 0x1.fffffcp127, 0x1p52 / 2, 0x1p900, -0x1p900};
        dueFormula(0, true, 0, xs, none, INF, 0.0, 0.0, -0.0, NARROW_LEAST, -NARROW_LEAST, 3 * NARROW_LEAST, 0x1.fffffcp127, 0x1p51, INF, -INF);
        dueFormula(2, false, 0, xs, none, MAX, 0.0, 0.0, -1, 0.0, -1, 0.0, 0x1.fffffcp127, 0x1p51, 0x1p900, -0x1p900);
        dueFormula(3, false, 0, xs, none, MAX, 1, 1, -0.0, 1, -0.0, 1, 0x1.fffffcp127, 0x1p51, 0x1p900, -0x1p900);
        dueFormula(4, false, 0, xs, none, MAX, 0.0, 0.0, -0.0, 0.0, -0.0, 0.0, 0x1.fffffcp127, 0x1p51, 0x1p900, -0x1p900);
        dueFormula(6, false, 0, xs, none, MAX / 2, 0.0, 0x1p-1001, -0x1p-1001, 0x1p-150, -0x1p-150, 0x1.8p-149, 0x1.fffffcp126, 0x1p50, 0x1p899, -0x1p899);
        dueFormula(6, true, 0, xs, none, INF, 0.0, 0.0, -0.0, 0.0, -0.0, 2 * NARROW_LEAST, 0x1.fffffcp126, 0x1p50, INF, -INF);
        dueFormula(7, false, 0, xs, none, INF, 2 * LEAST, 0x1p-999, -0x1p-999, 0x1p-148, -0x1p-148, 0x1.8p-147, 0x1.fffffcp128, 0x1p52, 0x1p901, -0x1p901);
        dueFormula(7, true, 0, xs, none, INF, 0.0, 0.0, -0.0, 0x1p-148, -0x1p-148, 0x1.8p-147, INF, 0x1p52, INF, -INF);
    }

    private static void formulasOfTwo() {
        double[] xs = {7, -7, INF, INF, 0.0, 0.0, -0.0, -5, 2.5, -INF, 4, BLANK, -0.0, 1, -6, 5.5};
        double[] ys = {2, 2, -INF, INF, INF, -0.0, 0.0, -0.0, -INF, 3, BLANK, 4, -0.0, 3, -3, 0.75};
        dueBoth(9, 0, xs, ys, 9, -5, BLANK, INF, INF, 0.0, 0.0, -5, -INF, -INF, BLANK, BLANK, -0.0, 4, -9, 6.25);
        dueBoth(10, 0, xs, ys, 5, -9, INF, BLANK, -INF, 0.0, -0.0, -5, INF, -INF, BLANK, BLANK, 0.0, -2, -3, 4.75);
        dueBoth(11, 0, xs, ys, 14, -14, -INF, INF, BLANK, -0.0, -0.0, 0.0, -INF, -INF, BLANK, BLANK, 0.0, 3, 18, 4.125);
        dueFormula(12, false, 0, xs, ys, 3.5, -3.5, BLANK, BLANK, 0.0, BLANK, BLANK, INF, -0.0, -INF, BLANK, BLANK, BLANK, 1.0 / 3, 2, 5.5 / 0.75);
        dueFormula(12, true, 0, xs, ys, 3.5, -3.5, BLANK, BLANK, 0.0, BLANK, BLANK, INF, -0.0, -INF, BLANK, BLANK, BLANK, 1f / 3, 2, 5.5f / 0.75f);
        dueBoth(13, 0, xs, ys, 1, -1, BLANK, BLANK, 0.0, BLANK, BLANK, BLANK, 2.5, BLANK, BLANK, BLANK, BLANK, 1, -0.0, 0.25);
        dueBoth(14, 0, xs, ys, 2, -7, -INF, INF, 0.0, -0.0, -0.0, -5, -INF, -INF, BLANK, BLANK, -0.0, 1, -6, 0.75);
        dueBoth(15, 0, xs, ys, 7, 2, INF, INF, INF, 0.0, 0.0, -0.0, 2.5, 3, BLANK, BLANK, -0.0, 3, -3, 5.5);
        dueBoth(16, 0, xs, ys, 7, 7, -INF, INF, 0.0, -0.0, 0.0, -5, -2.5, INF, BLANK, BLANK, -0.0, 1, -6, 5.5);
        dueBoth(26, 0, xs, ys, 8, -8, BLANK, BLANK, BLANK, BLANK, BLANK, BLANK, BLANK, -INF, BLANK, BLANK, BLANK, 0.0, -6, 5.25);
        dueBoth(9, 0, row(1, BLANK, -0.0), row(-0.0), 1, BLANK, -0.0);
        dueBoth(9, 0, row(1, BLANK, -0.0), row(BLANK), BLANK, BLANK, BLANK);
    }

    private static void formulasOfTwoAtTheEdges() {
        double[] xs = {MAX, MAX, LEAST, 0x1p-600, -0x1p-600, 0x1p600, 5, -5, 0x1p900, 16777217, 1, -1};
        double[] ys = {MAX, -0x1p930, LEAST, 0x1p-600, 0x1p-600, -0x1p600, LEAST, LEAST, 3, 1, 0x1p-30, -4};
        dueFormula(9, false, 0, xs, ys, INF, MAX, 2 * LEAST, 0x1p-599, 0.0, 0.0, 5, -5, 0x1p900, 16777218, 1 + 0x1p-30, -5);
        dueFormula(11, false, 0, xs, ys, INF, -INF, 0.0, 0.0, -0.0, -INF, 5 * LEAST, -5 * LEAST, 0x3p900, 16777217, 0x1p-30, 4);
        dueFormula(12, false, 0, xs, ys, 1, -0x1.fffffffffffffp93, 1, 1, -1, -1, INF, -INF, 0x1p900 / 3, 16777217, 0x1p30, 0.25);
        dueFormula(13, false, 0, xs, ys, 0.0, 0.0, 0.0, 0.0, -0.0, 0.0, 0.0, -0.0, 1, 0.0, 0.0, -1);
        dueFormula(26, false, 0, xs, ys, MAX, MAX, LEAST, 0x1p-600, -0x1p-600, 0x1p600, INF, -INF, 0x1p900, 16777217, 1, -0.0);
        dueFormula(9, true, 0, xs, ys, INF, BLANK, 0.0, 0.0, 0.0, BLANK, 5, -5, INF, 16777216, 1, -5);
        dueFormula(13, true, 0, xs, ys, BLANK, BLANK, BLANK, BLANK, BLANK, BLANK, BLANK, BLANK, BLANK, 0.0, 0.0, -1);
        dueFormula(26, true, 0, xs, ys, BLANK, BLANK, BLANK, BLANK, BLANK, BLANK, BLANK, BLANK, INF, 16777216, 1, -0.0);
        dueFormula(13, false, 0, row(MAX, MAX, 0x1p900, 0x1.23456p500, -0x1.23456p500, 0x1.8p-999, 7, 7), row(7, 0x1.8p-999, 10, 0x1.777p-300, 0x1.777p-300, LEAST, 7, -INF),
            MAX % 7, MAX % 0x1.8p-999, 0x1p900 % 10, 0x1.23456p500 % 0x1.777p-300, -0x1.23456p500 % 0x1.777p-300, 0.0, 0.0, 7);
        // Where a wide result brought to narrow would be rounded twice, or the wrong way round.
        dueFormula(9, true, 0, row(16777216, 16777216), row(1, 1 + 0x1p-23), 16777216, 16777218);
        dueFormula(26, true, 0, row(10, 1, 100), row(3, 0.3f, 0.7f), 9, 3 * 0.3f, 143 * 0.7f);
        dueFormula(26, true, 0, row(35000036, 16396), row(70, 3 / 1024.0), 35000000, 5596502f * 3 / 1024);
        dueFormula(26, false, 0, row(35000036, 16396), row(70, 3 / 1024.0), 35000070, 5596501 * 3 / 1024.0);
        dueFormula(26, false, 0, row(10, 1, 2.5, 7.5), row(3, 0.3f, 1, 3), 9, 3 * (double) 0.3f, 2, 6);
    }

    private static void formulasOfTheGreatestBelowZero() {
        TideBook book = new TideBook();
        putAll(book, 0, MAX, MAX);
        book.constantSpecial(0, 1);
        book.constantSpecial(1, 2);
        book.formula(1, 8, 0, 16, 0);
        book.formula(2, 9, 1, 16, 0);
        book.formula(3, 10, 1, 17, 0);
        book.formula(4, 12, 1, 17, 0);
        book.formula(5, 13, 1, 0, 0);
        book.formula(6, 24, 1, 16, 0);
        book.formula(7, 9, 1, 1, 0);
        dueColumn("-MAX", book, 1, -MAX, -MAX);
        dueColumn("-MAX + inf", book, 2, INF, INF);
        dueColumn("-MAX - -inf", book, 3, INF, INF);
        dueColumn("-MAX / -inf", book, 4, 0.0, 0.0);
        dueColumn("-MAX % MAX", book, 5, -0.0, -0.0);
        dueColumn("-MAX - -MAX", book, 6, BLANK, 0.0);
        dueColumn("-MAX + -MAX", book, 7, -INF, -INF);
    }

    private static void formulasWithComparisons() {
        double[] xs = {1, 2, 3, 0.0, -0.0, BLANK, 4, BLANK, INF};
        double[] ys = {2, 1, 3, -0.0, 0.0, 1, BLANK, BLANK, INF};
        double[] blank = {BLANK};
        dueBoth(17, 0, xs, ys, 1);
        dueBoth(17, 1, xs, ys, 1, BLANK, 3, 0.0, -0.0, BLANK, BLANK, BLANK, INF);
        dueBoth(17, 2, xs, ys, BLANK, 2);
        dueBoth(17, 3, xs, ys, BLANK, 2, 3, 0.0, -0.0, BLANK, BLANK, BLANK, INF);
        dueBoth(17, 4, xs, ys, BLANK, BLANK, 3, 0.0, -0.0, BLANK, BLANK, BLANK, INF);
        dueBoth(17, 5, xs, ys, 1, 2, BLANK, BLANK, BLANK, BLANK, 4);
        dueBoth(17, 6, xs, ys, BLANK, 2, 3, 0.0, -0.0, BLANK, 4, BLANK, INF);
        dueBoth(17, 7, xs, ys, BLANK, 2, BLANK, BLANK, BLANK, BLANK, 4);
        dueBoth(17, 8, xs, ys, 1, BLANK, 3, 0.0, -0.0, BLANK, 4, BLANK, INF);
        dueBoth(17, 9, xs, ys, 1, BLANK, BLANK, BLANK, BLANK, BLANK, 4);
        dueBoth(17, 10, xs, ys, 1, 2, BLANK, BLANK, BLANK, BLANK, 4);
        dueBoth(17, 11, xs, ys, BLANK, BLANK, 3, 0.0, -0.0, BLANK, BLANK, BLANK, INF);
        dueFormula(17, false, 4, row(16777217), row(16777216), BLANK);
        dueFormula(17, true, 4, row(16777217), row(16777216), 16777216);
        dueBoth(18, 0, xs, ys, 1, 2, 3, 0.0, -0.0, 1, 4, BLANK, INF);
        dueBoth(18, 0, row(1, BLANK, -0.0), row(-0.0), 1, -0.0, -0.0, -0.0, -0.0, -0.0, -0.0, -0.0, -0.0, -0.0, -0.0, -0.0, -0.0, -0.0, -0.0, -0.0);
        dueFormula(18, true, 0, row(BLANK), row(MAX), same(16, INF));
        dueBoth(25, 0, xs, ys, same(16, 1));
        dueBoth(25, 1, xs, ys, 1, 1, 2, 3, 4, 4, 4, 4, 5, 5, 5, 5, 5, 5, 5, 5);
        dueBoth(25, 5, xs, ys, 1, 2, 2, 2, 2, 3, 4, 5, 5, 6, 7, 8, 9, 10, 11, 12);
        dueBoth(25, 11, xs, ys, 0, 0, 1, 2, 3, 3, 3, 3, 4, 4, 4, 4, 4, 4, 4, 4);
        dueBoth(25, 2, row(5, 1, 6), row(4), 1, 1, 2, 2, 2, 2, 2, 2, 2, 2, 2, 2, 2, 2, 2, 2);
        dueBoth(25, 4, blank, blank, same(16, 0.0));
        dueBoth(25, 10, blank, blank, 1, 2, 3, 4, 5, 6, 7, 8, 9, 10, 11, 12, 13, 14, 15, 16);
    }

    private static void formulasOverPlaces() {
        double[] none = {BLANK};
        double[] xs = {3, 1, 2, -5, -0.0, 0.0, 0.0, -0.0, BLANK, 4, INF, -INF, 4, 4, -2, 8};
        dueBoth(19, 0, xs, none, BLANK, 2, 1, -0.0, -0.0, 0.0, 0.0, BLANK, BLANK, BLANK, 4, 4, 4, 4, 4, BLANK);
        dueBoth(19, 0, row(1, 2, 3, 2, 1, 3, 2, 3, 1), none, BLANK, 2, 2, 2, 2, 2, 3, 2, BLANK);
        dueBoth(19, 0, row(0.0, -0.0, -0.0, 0.0, -0.0), none, BLANK, -0.0, -0.0, -0.0, BLANK);
        dueBoth(20, 0, xs, none, 3, 3, 3, 3, 3, 3, 3, 3, 3, 4, INF, INF, INF, INF, INF, INF);
        dueBoth(20, 0, row(BLANK, BLANK, -0.0, 0.0, -0.0, BLANK, -1), none, BLANK, BLANK, -0.0, 0.0, 0.0, 0.0, 0.0, 0.0, 0.0, 0.0, 0.0, 0.0, 0.0, 0.0, 0.0, 0.0);
        dueBoth(21, 0, xs, none, 3, 1, 1, -5, -5, -5, -5, -5, -5, -5, -5, -INF, -INF, -INF, -INF, -INF);
        dueBoth(21, 0, row(BLANK, 0.0, -0.0, 0.0, 1), none, BLANK, 0.0, -0.0, -0.0, -0.0, -0.0, -0.0, -0.0, -0.0, -0.0, -0.0, -0.0, -0.0, -0.0, -0.0, -0.0);
        dueBoth(20, 0, row(BLANK, 3, 1, 2), none, BLANK, 3, 3, 3, 3, 3, 3, 3, 3, 3, 3, 3, 3, 3, 3, 3);
        dueBoth(21, 0, row(BLANK, 1, 3, 2), none, BLANK, 1, 1, 1, 1, 1, 1, 1, 1, 1, 1, 1, 1, 1, 1, 1);
        dueBoth(20, 0, none, none);
        dueBoth(21, 0, none, none);
        dueBoth(22, 0, xs, none, -INF, -5, -2, -0.0, -0.0, 0.0, 0.0, 1, 2, 3, 4, 4, 4, 8, INF, BLANK);
        dueBoth(22, 0, row(BLANK, 2, BLANK, 1), none, 1, 2);
        dueBoth(22, 0, none, none);
        dueBoth(22, 0, row(16, 15, 14, 13, 12, 11, 10, 9, 8, 7, 6, 5, 4, 3, 2, 1), none, 1, 2, 3, 4, 5, 6, 7, 8, 9, 10, 11, 12, 13, 14, 15, 16);
        dueBoth(23, 0, xs, none, 9, 7, 8, 1, 3, 3, 3, 3, BLANK, 10, 14, 0, 10, 10, 2, 13);
        dueFormula(23, false, 0, row(16777217, 16777216), none, 1, 0.0);
        dueFormula(23, true, 0, row(16777217, 16777216), none, 0.0, 0.0);
        dueBoth(24, 0, xs, none, BLANK, -2, 1, -7, 5, 0.0, 0.0, -0.0, BLANK, BLANK, INF, -INF, INF, 0.0, -6, 10);
        dueBoth(24, 0, row(INF, INF, 1, -INF, -INF, -0.0, -0.0), none, BLANK, BLANK, -INF, -INF, BLANK, INF, 0.0);
        dueFormula(24, false, 0, row(1, MAX, 1, 16777217, 0.25), none, BLANK, MAX, -MAX, 16777216, -16777216.75);
        dueFormula(24, true, 0, row(1, -0x1p-25, 16777217, 0.25), none, BLANK, -1, 16777216, -16777216);
        dueFormula(24, true, 0, row(-0x1.fffffcp127, 0x1.fffffcp127, -0x1.fffffcp127), none, BLANK, INF, -INF);
    }

    public static void main(String[] args) {
        promise1NewObject();
        promise2Set();
        promise2SetNarrow();
        promise3Special();
        promise4Constant();
        promise5ConstantSpecial();
        promise6Formula();
        promise6FormulasFollow();
        promise6FormulasFollowByEachWay();
        promise7Input();
        promise8Width();
        promise9Back();
        promise9AllChangesCanBeTakenBack();
        promise10Alarm();
        promise11Ring();
        promise11RingsOfBlanks();
        promise11WideInAlarms();
        promises12To15Readings();
        promise15BitsOfEveryExponent();
        promise16Compared();
        promise17Alarmed();
        promise18Told();
        formulasOfOne();
        formulasOfOneAtTheEdges();
        formulasOfTwo();
        formulasOfTwoAtTheEdges();
        formulasOfTheGreatestBelowZero();
        formulasWithComparisons();
        formulasOverPlaces();
        System.out.println(wrong == 0 ? "all answers are as due" : wrong + " answers are not as due");
        if (wrong != 0) {
            System.exit(1);
        }
    }
}
