import java.util.function.ToLongBiFunction;

// The boundary cases that the document names under its promises 1 to 18: what a call answers at its
// edges, and what it refuses. One test for each sentence.
public final class BoundariesOfPromises extends BoundaryTest {
    private static final double[] SPECIALS = {BLANK, INF, -INF, -0.0, MAX, LEAST};

    private static void newHasNoAlarms() {
        TideBook book = new TideBook();
        due("told(12, 1)", book.told(12, 1), 0);
        due("alarmed(0, 0)", book.alarmed(0, 0), -1);
        due("ring()", book.ring(), 0);
        due("alarmed(0, 0)", book.alarmed(0, 0), -1);
        due("alarm(0, 5, 0)", book.alarm(0, 5, 0), 0);
    }

    private static void newHasNoChanges() {
        TideBook book = new TideBook();
        due("told(12, 0)", book.told(12, 0), 0);
        due("back()", book.back(), -1);
        due("told(12, 2)", book.told(12, 2), 0);
    }

    private static void newIsApartFromOthers() {
        TideBook other = fullBook();
        TideBook book = new TideBook();
        for (int column = 0; column < 12; column++) {
            due("told(" + column + ", 0)", book.told(column, 0), 0);
            due("told(" + column + ", 1)", book.told(column, 1), 0);
            due("told(" + column + ", 2)", book.told(column, 2), 16);
            due("told(" + column + ", 3)", book.told(column, 3), -1);
        }
        for (int what = 0; what < 3; what++) {
            due("told(12, " + what + ")", book.told(12, what), 0);
        }
        book.constant(0, 99, 0);
        book.set(0, 0, 99, 0);
        book.alarm(5, 5, 5);
        book.ring();
        dueReading("a constant of another book", other, 4, 0, 1);
        dueReading("another book", other, 0, 0, 1.5);
        due("alarmed(0, 0) of another book", other.alarmed(0, 0), 1);
        due("alarmed(0, 0)", book.alarmed(0, 0), 16);
        due("back()", book.back(), 1);
    }

    private static void setAtTheEdges() {
        int[] ms = {1, -1, HIGHEST, LOWEST, 0, 1, -1, HIGHEST, LOWEST, 0, 5};
        int[] es = {-1000, -1000, -1000, -1000, -1000, 900, 900, 900, 900, 900, 0};
        TideBook book = new TideBook();
        for (int place = 0; place < ms.length; place++) {
            due("set(0, " + place + ", " + ms[place] + ", " + es[place] + ")", book.set(0, place, ms[place], es[place]), 1);
            dueReading("m * 2^e", book, 0, place, Math.scalb((double) ms[place], es[place]));
        }
        due("set again", book.set(0, 0, 7, -1), 1);
        dueReading("set again", book, 0, 0, 3.5);
    }

    private static void setBroughtToItsWidth() {
        TideBook book = new TideBook();
        book.width(0, true);
        int[] ms = {16777217, 16777219, 1, -1, 1, -1, 1, 3, HIGHEST, LOWEST, 0, 33554431, 16777215};
        int[] es = {0, 0, 128, 128, -1000, -1000, -149, -150, 0, 900, 900, 103, 104};
        double[] wants = {16777216, 16777220, INF, -INF, 0.0, -0.0, NARROW_LEAST, 2 * NARROW_LEAST, 0x1p31, -INF, 0.0, INF, NARROW_MAX};
        for (int place = 0; place < ms.length; place++) {
            due("set", book.set(0, place, ms[place], es[place]), 1);
        }
        dueColumn("brought to narrow", book, 0, wants);
    }

    private static void setNoColumn() {
        for (int column : NO_COLUMNS) {
            refused("set(" + column + ", 0, 7, 0)", 0, book -> book.set(column, 0, 7, 0));
        }
    }

    private static void setNoPlace() {
        for (int place : NO_PLACES) {
            refused("set(0, " + place + ", 7, 0)", 0, book -> book.set(0, place, 7, 0));
            refused("set(11, " + place + ", 7, 0)", 0, book -> book.set(11, place, 7, 0));
        }
    }

    private static void setOfFormula() {
        refused("set(3, 0, 7, 0)", 0, book -> book.set(3, 0, 7, 0));
        refused("set(11, 15, 7, 0)", 0, book -> book.set(11, 15, 7, 0));
    }

    private static void setNoExponent() {
        for (int e : NO_EXPONENTS) {
            refused("set(0, 0, 7, " + e + ")", 0, book -> book.set(0, 0, 7, e));
            refused("set(1, 15, 0, " + e + ")", 0, book -> book.set(1, 15, 0, e));
        }
    }

    private static void specialOfWhat(int what, double wide, double narrow) {
        TideBook book = new TideBook();
        book.width(11, true);
        for (int place = 0; place < 16; place += 15) {
            book.set(0, place, 7, 0);
            book.set(11, place, 7, 0);
            due("special(0, " + place + ", " + what + ")", book.special(0, place, what), 1);
            due("special(11, " + place + ", " + what + ")", book.special(11, place, what), 1);
            dueReading("special " + what + ", wide", book, 0, place, wide);
            dueReading("special " + what + ", narrow", book, 11, place, narrow);
        }
        due("bits of special " + what + ", narrow", book.bits(11, 0), Double.isNaN(narrow) ? 0 : Float.floatToIntBits((float) narrow));
        due("told(12, 0)", book.told(12, 0), 9);
    }

    private static void specialRefusedLikewise() {
        for (int column : NO_COLUMNS) {
            refused("special(" + column + ", 0, 1)", 0, book -> book.special(column, 0, 1));
        }
        for (int place : NO_PLACES) {
            refused("special(0, " + place + ", 1)", 0, book -> book.special(0, place, 1));
        }
        refused("special(3, 0, 1)", 0, book -> book.special(3, 0, 1));
        refused("special(3, 0, 0)", 0, book -> book.special(3, 0, 0));
    }

    private static void specialNoWhat() {
        for (int what : NO_SPECIALS) {
            refused("special(0, 0, " + what + ")", 0, book -> book.special(0, 0, what));
            refused("special(1, 15, " + what + ")", 0, book -> book.special(1, 15, what));
        }
    }

    private static void constantAtTheEdges() {
        int[] ms = {1, -1, HIGHEST, LOWEST, 0, HIGHEST, LOWEST, 16777217};
        int[] es = {-1000, 900, -1000, -1000, 900, 900, 900, 0};
        TideBook book = new TideBook();
        for (int k = 0; k < 8; k++) {
            due("constant(" + k + ", " + ms[k] + ", " + es[k] + ")", book.constant(k, ms[k], es[k]), 1);
            book.formula(1 + k, 18, 0, 16 + k, 0);
        }
        for (int k = 0; k < 8; k++) {
            dueReading("constant " + k, book, 1 + k, 0, Math.scalb((double) ms[k], es[k]));
            dueReading("constant " + k, book, 1 + k, 15, Math.scalb((double) ms[k], es[k]));
        }
    }

    private static void constantNone() {
        for (int k : NO_CONSTANTS) {
            refused("constant(" + k + ", 77, 0)", 0, book -> book.constant(k, 77, 0));
        }
    }

    private static void constantNoExponent() {
        for (int e : NO_EXPONENTS) {
            refused("constant(0, 77, " + e + ")", 0, book -> book.constant(0, 77, e));
            refused("constant(7, 0, " + e + ")", 0, book -> book.constant(7, 0, e));
        }
    }

    private static void constantSpecialOfWide() {
        for (int k = 0; k < 8; k += 7) {
            for (int what = 0; what < 6; what++) {
                TideBook book = new TideBook();
                book.constant(k, 7, 0);
                due("constantSpecial(" + k + ", " + what + ")", book.constantSpecial(k, what), 1);
                book.formula(11, 18, 0, 16 + k, 0);
                dueColumn("constantSpecial " + what, book, 11, all(SPECIALS[what]));
                due("told(12, 0)", book.told(12, 0), 3);
            }
        }
    }

    private static void constantSpecialRefusedLikewise() {
        for (int k : NO_CONSTANTS) {
            refused("constantSpecial(" + k + ", 1)", 0, book -> book.constantSpecial(k, 1));
        }
        for (int what : NO_SPECIALS) {
            refused("constantSpecial(0, " + what + ")", 0, book -> book.constantSpecial(0, what));
            refused("constantSpecial(7, " + what + ")", 0, book -> book.constantSpecial(7, what));
        }
    }

    private static void formulaOfEither() {
        TideBook book = new TideBook();
        putAll(book, 0, 5, -5);
        putAll(book, 1, 8, 8, 8);
        due("formula of an input", book.formula(1, 8, 0, 16, 0), 1);
        dueColumn("it had none", book, 1, -5, 5);
        due("formula of a formula's column", book.formula(1, 1, 0, 16, 0), 1);
        dueColumn("it had one", book, 1, 5, 5);
        due("told(12, 0)", book.told(12, 0), 7);
        for (int f = 0; f <= 26; f++) {
            due("formula(1, " + f + ", 0, 0, 11)", book.formula(1, f, 0, 0, 11), 1);
            due("told(1, 3)", book.told(1, 3), f);
        }
        due("formula(11, 26, 10, 10, 0)", book.formula(11, 26, 10, 10, 0), 1);
        due("formula(11, 0, 0, 23, 11)", book.formula(11, 0, 0, 23, 11), 1);
    }

    private static void formulaFollows() {
        TideBook book = new TideBook();
        book.formula(11, 9, 10, 16, 0);
        for (int column = 1; column < 11; column++) {
            book.formula(column, 7, column - 1, 16, 0);
        }
        book.constant(0, 1, 0);
        book.set(0, 15, 1, 0);
        dueReading("from the first column to the last", book, 11, 15, 1025);
        book.special(0, 15, 0);
        dueReading("BLANK likewise", book, 11, 15, BLANK);
        book.back();
        book.constant(0, 2, 0);
        dueReading("by a constant", book, 11, 15, 1026);
    }

    private static void formulaNoColumn() {
        for (int column : NO_COLUMNS) {
            refused("formula(" + column + ", 0, 0, 16, 0)", 0, book -> book.formula(column, 0, 0, 16, 0));
        }
    }

    private static void formulaNoF() {
        for (int f : new int[] {-1, 27, LOWEST, HIGHEST}) {
            refused("formula(5, " + f + ", 0, 16, 0)", 0, book -> book.formula(5, f, 0, 16, 0));
            refused("formula(2, " + f + ", 0, 16, 0)", 0, book -> book.formula(2, f, 0, 16, 0));
        }
    }

    private static void formulaNoA() {
        for (int a : new int[] {-1, 5, 6, 11, 12, 16, 23, LOWEST, HIGHEST}) {
            refused("formula(5, 0, " + a + ", 16, 0)", 0, book -> book.formula(5, 0, a, 16, 0));
        }
        refused("formula(0, 0, 0, 16, 0)", 0, book -> book.formula(0, 0, 0, 16, 0));
        refused("formula(0, 0, -1, 16, 0)", 0, book -> book.formula(0, 0, -1, 16, 0));
    }

    private static void formulaNoB() {
        for (int b : new int[] {-1, 5, 6, 11, 12, 15, 24, LOWEST, LOWEST + 16, HIGHEST}) {
            refused("formula(5, 9, 0, " + b + ", 0)", 0, book -> book.formula(5, 9, 0, b, 0));
        }
    }

    private static void formulaNoC() {
        for (int c : NO_COMPARISONS) {
            refused("formula(5, 17, 0, 16, " + c + ")", 0, book -> book.formula(5, 17, 0, 16, c));
        }
    }

    private static void formulaWhetherTheyCount() {
        for (int f = 0; f <= 26; f++) {
            int of = f;
            refused("formula(5, " + f + ", 0, 5, 0)", 0, book -> book.formula(5, of, 0, 5, 0));
            refused("formula(5, " + f + ", 0, 24, 0)", 0, book -> book.formula(5, of, 0, 24, 0));
            refused("formula(5, " + f + ", 0, 16, 12)", 0, book -> book.formula(5, of, 0, 16, 12));
            refused("formula(5, " + f + ", 0, 16, -1)", 0, book -> book.formula(5, of, 0, 16, -1));
            refused("formula(5, " + f + ", 5, 16, 0)", 0, book -> book.formula(5, of, 5, 16, 0));
        }
    }

    private static void inputWithWhatItHas() {
        TideBook book = new TideBook();
        putAll(book, 0, 16777217, BLANK, -0.0, INF, MAX);
        book.formula(11, 8, 0, 16, 0);
        book.width(11, true);
        due("input(11)", book.input(11), 1);
        putAll(book, 0, 1, 2, 3, 4, 5, 6);
        dueColumn("an input", book, 11, -16777216, BLANK, 0.0, -INF, -INF);
        due("told(11, 0)", book.told(11, 0), 0);
        due("told(11, 1)", book.told(11, 1), 1);
        due("set(11, 1, ..)", book.set(11, 1, 9, 0), 1);
        dueReading("an input", book, 11, 1, 9);
        // Nothing asked of the book between the last change and input().
        TideBook unasked = new TideBook();
        unasked.formula(1, 7, 0, 16, 0);
        unasked.set(0, 0, 4, 0);
        due("input(1)", unasked.input(1), 1);
        unasked.set(0, 0, 5, 0);
        dueColumn("as it was then", unasked, 1, 8);
    }

    private static void inputNone() {
        for (int column : NO_COLUMNS) {
            refused("input(" + column + ")", 0, book -> book.input(column));
        }
    }

    private static void inputOfInput() {
        for (int column = 0; column < 3; column++) {
            int input = column;
            refused("input(" + column + ")", 0, book -> book.input(input));
        }
        TideBook book = fullBook();
        due("input(3)", book.input(3), 1);
        due("input(3) again", book.input(3), 0);
    }

    private static void widthOfInput() {
        TideBook book = new TideBook();
        putAll(book, 11, 16777217, 16777219, 0x1p128, -0x1p128, 0x1p-150, -0x1p-1000, BLANK, -0.0, INF, MAX, LEAST, 0x1p-149);
        due("width(11, true)", book.width(11, true), 1);
        double[] wants = {16777216, 16777220, INF, -INF, 0.0, -0.0, BLANK, -0.0, INF, INF, 0.0, NARROW_LEAST};
        dueColumn("narrow", book, 11, wants);
        due("bits of a narrow one", book.bits(11, 0), 0x4B800000L);
        due("width(11, false)", book.width(11, false), 1);
        dueColumn("wide again", book, 11, wants);
        due("bits of a wide one", book.bits(11, 0), 0x4170000000000000L);
    }

    private static void widthFromNowOn() {
        TideBook book = new TideBook();
        book.set(0, 0, 16777217, 0);
        book.formula(1, 0, 0, 16, 0);
        due("width(1, true)", book.width(1, true), 1);
        dueReading("a formula's column, narrow", book, 1, 0, 16777216);
        due("width(1, false)", book.width(1, false), 1);
        dueReading("a formula's column, wide", book, 1, 0, 16777217);
        book.width(0, true);
        book.set(0, 1, 16777219, 0);
        dueReading("set in a narrow one", book, 0, 1, 16777220);
        book.special(0, 1, 4);
        dueReading("special in a narrow one", book, 0, 1, NARROW_MAX);
        book.width(0, false);
        book.special(0, 1, 4);
        dueReading("special in a wide one", book, 0, 1, MAX);
        book.set(0, 1, 16777219, 0);
        dueReading("set in a wide one", book, 0, 1, 16777219);
    }

    private static void widthNone() {
        for (int column : NO_COLUMNS) {
            refused("width(" + column + ", true)", 0, book -> book.width(column, true));
            refused("width(" + column + ", false)", 0, book -> book.width(column, false));
        }
    }

    private static void widthSoAlready() {
        refused("width(1, true)", 0, book -> book.width(1, true));
        refused("width(0, false)", 0, book -> book.width(0, false));
        refused("width(3, false)", 0, book -> book.width(3, false));
        TideBook book = fullBook();
        due("width(3, true)", book.width(3, true), 1);
        due("width(3, true)", book.width(3, true), 0);
        due("width(3, false)", book.width(3, false), 1);
        due("width(3, false)", book.width(3, false), 0);
    }

    private static void backTellsHowManyAreLeft() {
        TideBook book = new TideBook();
        book.set(0, 0, 1, 0);
        due("back() of the only one", book.back(), 0);
        for (int i = 0; i < 3; i++) {
            book.constant(0, i, 0);
        }
        due("back()", book.back(), 2);
        due("told(12, 0)", book.told(12, 0), 2);
        book.width(0, true);
        due("back()", book.back(), 2);
        due("back()", book.back(), 1);
        due("back()", book.back(), 0);
        due("told(12, 0)", book.told(12, 0), 0);
    }

    private static void backOfNone() {
        TideBook book = new TideBook();
        due("back() of a new book", book.back(), -1);
        due("told(12, 0)", book.told(12, 0), 0);
        book.set(0, 0, 1, 0);
        due("back()", book.back(), 0);
        due("back() with none left", book.back(), -1);
        due("back() once more", book.back(), -1);
        due("told(12, 0)", book.told(12, 0), 0);
        book.set(0, 0, 1, 0);
        due("told(12, 0)", book.told(12, 0), 1);
        dueReading("set after that", book, 0, 0, 1);
        due("back()", book.back(), 0);
        book.alarm(0, 0, 0);
        book.ring();
        due("back() with an alarm and a ring", book.back(), -1);
    }

    private static void alarmNumberedFrom0() {
        TideBook book = new TideBook();
        for (int number = 0; number < 10; number++) {
            due("alarm", book.alarm(0, 0, 0), number);
            due("told(12, 1)", book.told(12, 1), number + 1);
        }
        TideBook between = new TideBook();
        due("alarm", between.alarm(11, 11, 23), 0);
        due("alarm refused", between.alarm(11, 12, 23), -1);
        between.ring();
        due("alarm after a refused one and a ring", between.alarm(0, 0, 11), 1);
    }

    private static void alarmNoColumn() {
        for (int column : NO_COLUMNS) {
            refused("alarm(" + column + ", 5, 0)", -1, book -> book.alarm(column, 5, 0));
        }
    }

    private static void alarmNoC() {
        for (int c : NO_COMPARISONS) {
            refused("alarm(0, " + c + ", 0)", -1, book -> book.alarm(0, c, 0));
        }
    }

    private static void alarmNoB() {
        for (int b : NO_B) {
            refused("alarm(0, 5, " + b + ")", -1, book -> book.alarm(0, 5, b));
        }
    }

    private static void alarmsAreFull() {
        TideBook book = new TideBook();
        book.set(0, 0, 1, 0);
        for (int number = 0; number < 10; number++) {
            book.alarm(0, 4, 0);
        }
        due("the eleventh", book.alarm(1, 5, 1), -1);
        due("the twelfth", book.alarm(1, 5, 1), -1);
        due("told(12, 1)", book.told(12, 1), 10);
        due("told(12, 0)", book.told(12, 0), 1);
        due("ring() of the first ten", book.ring(), 10);
        for (int number = 0; number < 10; number++) {
            due("alarmed(" + number + ", 0)", book.alarmed(number, 0), 1);
        }
        due("alarmed(10, 0)", book.alarmed(10, 0), -1);
        due("an eleventh after a ring", book.alarm(1, 5, 1), -1);
    }

    private static void ringInAll() {
        TideBook none = new TideBook();
        due("ring() without alarms", none.ring(), 0);
        due("told(12, 2)", none.told(12, 2), 1);
        TideBook book = new TideBook();
        for (int number = 0; number < 10; number++) {
            book.alarm(number, 10, 11);
        }
        due("ring() everywhere", book.ring(), 160);
        due("ring() nowhere new", book.ring(), 0);
        putAll(book, 11, all(1));
        putAll(book, 3, all(1));
        due("ring() where nothing new holds", book.ring(), 0);
        book.set(3, 15, 2, 0);
        due("ring() at one place", book.ring(), 1);
        due("told(12, 2)", book.told(12, 2), 4);
    }

    private static void readingOfBlank() {
        TideBook book = new TideBook();
        book.special(0, 3, 3);
        book.special(0, 3, 0);
        book.set(0, 4, 9, 0);
        book.special(0, 4, 0);
        book.formula(1, 8, 0, 16, 0);
        for (int column = 0; column < 3; column++) {
            for (int place = 0; place < 16; place++) {
                due("bits of reading", Double.doubleToLongBits(book.reading(column, place)), 0);
            }
        }
    }

    // What a call answers of a column or place that there is not; all that there are hold a number with a -.
    private static void dueOfNoneSuch(ToLongBiFunction<TideBook, int[]> asked) {
        TideBook book = new TideBook();
        for (int column = 0; column < 12; column++) {
            put(book, column, 0, -1);
            put(book, column, 15, -2);
        }
        for (int column : NO_COLUMNS) {
            due("of column " + column, asked.applyAsLong(book, new int[] {column, 0}), 0);
            due("of column " + column, asked.applyAsLong(book, new int[] {column, 15}), 0);
        }
        for (int place : NO_PLACES) {
            due("of place " + place, asked.applyAsLong(book, new int[] {0, place}), 0);
            due("of place " + place, asked.applyAsLong(book, new int[] {11, place}), 0);
        }
        due("of none at all", asked.applyAsLong(book, new int[] {-1, -1}), 0);
    }

    private static void readingOfNarrow() {
        TideBook book = new TideBook();
        book.width(0, true);
        putAll(book, 0, 0.1f, NARROW_MAX, NARROW_LEAST, -0.0, -INF);
        dueColumn("as wide numbers", book, 0, 0.1f, NARROW_MAX, NARROW_LEAST, -0.0, -INF);
    }

    private static void blankOrNot() {
        TideBook book = new TideBook();
        putAll(book, 0, BLANK, 0.0, -0.0, INF, -INF, LEAST, MAX);
        for (int place = 0; place < 16; place++) {
            due("isBlank(0, " + place + ")", book.isBlank(0, place), place == 0 || place > 6);
        }
    }

    private static void blanksOfNoneSuch() {
        TideBook book = new TideBook();
        for (int column : NO_COLUMNS) {
            due("isBlank(" + column + ", 0)", book.isBlank(column, 0), false);
        }
        for (int place : NO_PLACES) {
            due("isBlank(0, " + place + ")", book.isBlank(0, place), false);
        }
    }

    private static void minusOrNot() {
        TideBook book = new TideBook();
        book.width(1, true);
        for (int column = 0; column < 2; column++) {
            putAll(book, column, -0.0, 0.0, -INF, INF, -NARROW_LEAST, NARROW_LEAST, -NARROW_MAX, 1, BLANK);
            for (int place = 0; place < 16; place++) {
                due("isMinus(" + column + ", " + place + ")", book.isMinus(column, place), place % 2 == 0 && place < 8);
            }
        }
        put(book, 1, 9, -0x1p-1000);
        due("isMinus of what became -0", book.isMinus(1, 9), true);
        book.special(0, 0, 0);
        due("isMinus of BLANK where -0 was", book.isMinus(0, 0), false);
    }

    private static void signBit() {
        TideBook book = new TideBook();
        putAll(book, 0, 1, -1, -0.0, 0.0, -INF);
        due("bits of 1", book.bits(0, 0), 0x3FF0000000000000L);
        due("bits of -1", book.bits(0, 1), 0xBFF0000000000000L);
        due("bits of -0", book.bits(0, 2), 0x8000000000000000L);
        due("bits of 0", book.bits(0, 3), 0L);
        due("bits of -infinite", book.bits(0, 4), 0xFFF0000000000000L);
    }

    private static void narrowBitsAsInt() {
        TideBook book = new TideBook();
        book.width(0, true);
        putAll(book, 0, 1, -1, -0.0, 0.0, -INF, INF, NARROW_MAX, -NARROW_LEAST);
        long[] wants = {0x3F800000L, 0xFFFFFFFFBF800000L, 0xFFFFFFFF80000000L, 0L, 0xFFFFFFFFFF800000L, 0x7F800000L, 0x7F7FFFFFL,
            0xFFFFFFFF80000001L};
        for (int place = 0; place < wants.length; place++) {
            due("bits(0, " + place + ")", book.bits(0, place), wants[place]);
        }
        book.width(0, false);
        due("bits of 1, wide again", book.bits(0, 0), 0x3FF0000000000000L);
    }

    private static void exponentAnd1023() {
        TideBook book = new TideBook();
        put(book, 0, 0, 0x1p-1000);
        put(book, 0, 1, 0x1p900);
        put(book, 0, 2, 0.5);
        put(book, 0, 3, 2);
        put(book, 0, 4, MAX);
        put(book, 0, 5, INF);
        long[] wants = {23L << 52, 1923L << 52, 1022L << 52, 1024L << 52, 0x7FEFFFFFFFFFFFFFL, 2047L << 52};
        for (int place = 0; place < wants.length; place++) {
            due("bits(0, " + place + ")", book.bits(0, place), wants[place]);
        }
        // The greatest exponents, by doubling.
        book.constant(0, 1, 123);
        book.formula(1, 11, 0, 16, 0);
        due("bits of 2^1023", book.bits(1, 1), 2046L << 52);
    }

    private static void exponentAnd127() {
        TideBook book = new TideBook();
        book.width(0, true);
        putAll(book, 0, 0x1p-126, 0x1p127, 0.5, 2, NARROW_MAX, INF);
        long[] wants = {1L << 23, 254L << 23, 126L << 23, 128L << 23, 0x7F7FFFFFL, 255L << 23};
        for (int place = 0; place < wants.length; place++) {
            due("bits(0, " + place + ")", book.bits(0, place), wants[place]);
        }
    }

    // x * 2^-22 in column 1, and that * 2^-52 in column 2.
    private static void belowTheLeastNormal() {
        TideBook book = new TideBook();
        put(book, 0, 0, 0x1p-1000);
        put(book, 0, 1, 0x1.fffffffcp-970);
        put(book, 0, 2, 0x1p-1000 + 0x1p-999);
        book.special(0, 3, 5);
        book.constant(0, 1, -22);
        book.constant(1, 1, -52);
        book.constant(2, 1, -1);
        book.formula(1, 11, 0, 16, 0);
        book.formula(2, 11, 1, 17, 0);
        book.formula(3, 11, 1, 18, 0);
        due("bits of the least normal one", book.bits(1, 0), 0x0010000000000000L);
        due("bits of its half", book.bits(3, 0), 0x0008000000000000L);
        due("bits of the least one", book.bits(2, 0), 1L);
        due("bits of the least one by special", book.bits(0, 3), 1L);
        due("bits of 3 times the least one", book.bits(2, 2), 3L);
        book.formula(4, 10, 1, 2, 0);
        due("bits of the greatest below the least normal one", book.bits(4, 0), 0x000FFFFFFFFFFFFFL);
        TideBook narrow = new TideBook();
        narrow.width(0, true);
        putAll(narrow, 0, 0x1p-126, 0x1p-127, 0x1p-149, 0x3p-149, 0x1p-126 - 0x1p-149, -0x1p-149);
        long[] wants = {0x00800000L, 0x00400000L, 1L, 3L, 0x007FFFFFL, 0xFFFFFFFF80000001L};
        for (int place = 0; place < wants.length; place++) {
            due("narrow bits(0, " + place + ")", narrow.bits(0, place), wants[place]);
        }
    }

    private static void digitsBehindThePoint() {
        TideBook book = new TideBook();
        put(book, 0, 0, 1.5);
        put(book, 0, 1, HIGHEST);
        put(book, 0, 2, 0x1.000002p0);
        due("bits of 1.5", book.bits(0, 0), 0x3FF8000000000000L);
        due("bits of 2147483647", book.bits(0, 1), 0x41DFFFFFFFC00000L);
        book.constant(0, 3, 0);
        book.formula(1, 12, 0, 16, 0);
        due("bits of 0.5", book.bits(1, 0), 0x3FE0000000000000L);
        due("bits of 715827882.33..", book.bits(1, 1), Double.doubleToLongBits(2147483647.0 / 3));
        book.width(0, true);
        due("narrow bits of 1.5", book.bits(0, 0), 0x3FC00000L);
        due("narrow bits of the next one above 1", book.bits(0, 2), 0x3F800001L);
    }

    private static void bitsOfBlank() {
        TideBook book = new TideBook();
        book.special(0, 0, 2);
        book.special(0, 0, 0);
        book.width(1, true);
        book.special(1, 0, 3);
        book.special(1, 0, 0);
        for (int column = 0; column < 3; column++) {
            due("bits(" + column + ", 0)", book.bits(column, 0), 0);
            due("bits(" + column + ", 15)", book.bits(column, 15), 0);
        }
    }

    private static void comparedWithItself() {
        TideBook book = new TideBook();
        putAll(book, 0, 1, -0.0, INF);
        int[] wants = {0, 3, 0, 3, 3, 13, 16, 13, 16, 13, 13, 3};
        for (int c = 0; c < 12; c++) {
            due("compared(0, " + c + ", 0)", book.compared(0, c, 0), wants[c]);
        }
        for (int place = 0; place < 16; place++) {
            book.set(11, place, place, 0);
        }
        due("compared(11, 4, 11)", book.compared(11, 4, 11), 16);
        due("compared(11, 5, 11)", book.compared(11, 5, 11), 0);
    }

    private static void comparedAsWide() {
        TideBook book = new TideBook();
        book.width(1, true);
        book.set(0, 0, 16777217, 0);
        book.set(1, 0, 16777217, 0);
        due("compared(0, 4, 1)", book.compared(0, 4, 1), 0);
        due("compared(0, 2, 1)", book.compared(0, 2, 1), 1);
        due("compared(1, 0, 0)", book.compared(1, 0, 0), 1);
        due("compared(1, 4, 0)", book.compared(1, 4, 0), 0);
    }

    private static void comparedNoColumn() {
        TideBook book = new TideBook();
        book.constant(0, 1, 0);
        for (int column : NO_COLUMNS) {
            due("compared(" + column + ", 5, 0)", book.compared(column, 5, 0), -1);
            due("compared(0, 5, " + column + ")", book.compared(0, 5, column), -1);
        }
    }

    private static void comparedNoC() {
        TideBook book = new TideBook();
        for (int c : NO_COMPARISONS) {
            due("compared(0, " + c + ", 1)", book.compared(0, c, 1), -1);
        }
    }

    private static void alarmedHeldAndRang() {
        TideBook book = new TideBook();
        book.alarm(0, 4, 0);
        book.ring();
        due("held nowhere", book.alarmed(0, 0), 0);
        due("rang nowhere", book.alarmed(0, 1), 0);
        putAll(book, 0, all(1));
        due("held at the latest ring, not now", book.alarmed(0, 0), 0);
        book.ring();
        due("held everywhere", book.alarmed(0, 0), 16);
        due("rang everywhere", book.alarmed(0, 1), 16);
        book.ring();
        due("held everywhere", book.alarmed(0, 0), 16);
        due("rang nowhere", book.alarmed(0, 1), 0);
    }

    private static void alarmedFirstPlace() {
        for (int place = 0; place < 16; place++) {
            TideBook book = new TideBook();
            book.alarm(0, 4, 0);
            for (int behind = place; behind < 16; behind++) {
                book.set(0, behind, 1, 0);
            }
            book.ring();
            due("the first of the places from " + place, book.alarmed(0, 2), place);
        }
        // Where it held before, it does not ring.
        TideBook book = new TideBook();
        book.alarm(0, 4, 0);
        book.set(0, 0, 1, 0);
        book.ring();
        book.set(0, 9, 1, 0);
        book.ring();
        due("the first new place", book.alarmed(0, 2), 9);
    }

    private static void alarmedNowhere() {
        TideBook book = new TideBook();
        book.alarm(0, 4, 0);
        book.ring();
        due("it never held", book.alarmed(0, 2), -1);
        book.set(0, 0, 1, 0);
        book.ring();
        due("it rang at place 0", book.alarmed(0, 2), 0);
        book.ring();
        due("it holds, but rang no more", book.alarmed(0, 2), -1);
    }

    private static void alarmedNoAlarm() {
        TideBook book = new TideBook();
        for (int what = 0; what < 3; what++) {
            due("alarmed(0, " + what + ") without alarms", book.alarmed(0, what), -1);
        }
        book.alarm(0, 5, 1);
        book.alarm(0, 5, 1);
        book.ring();
        for (int alarm : new int[] {-1, 2, 9, 10, 11, LOWEST, HIGHEST}) {
            due("alarmed(" + alarm + ", 0)", book.alarmed(alarm, 0), -1);
        }
        due("alarmed(1, 0)", book.alarmed(1, 0), 16);
    }

    private static void alarmedNoWhat() {
        TideBook book = new TideBook();
        book.alarm(0, 5, 1);
        book.ring();
        for (int what : new int[] {-1, 3, LOWEST, HIGHEST}) {
            due("alarmed(0, " + what + ")", book.alarmed(0, what), -1);
        }
    }

    private static void alarmedNotLookedAt() {
        TideBook book = new TideBook();
        book.ring();
        book.alarm(0, 5, 1);
        for (int what = 0; what < 3; what++) {
            due("alarmed(0, " + what + ") before a ring", book.alarmed(0, what), -1);
        }
        book.ring();
        book.alarm(0, 4, 1);
        due("alarmed(0, 0) after a ring", book.alarmed(0, 0), 16);
        due("alarmed(1, 0) before a ring", book.alarmed(1, 0), -1);
        book.ring();
        due("alarmed(1, 0) after a ring", book.alarmed(1, 0), 0);
    }

    private static void toldFormula() {
        TideBook book = new TideBook();
        due("told(11, 0) of an input", book.told(11, 0), 0);
        book.formula(11, 0, 0, 16, 0);
        due("told(11, 0) of formula 0", book.told(11, 0), 1);
        due("told(10, 0)", book.told(10, 0), 0);
        book.input(11);
        due("told(11, 0) of an input again", book.told(11, 0), 0);
        book.back();
        due("told(11, 0) behind back()", book.told(11, 0), 1);
    }

    private static void toldNarrow() {
        TideBook book = new TideBook();
        for (int column = 0; column < 12; column += 11) {
            due("told(" + column + ", 1)", book.told(column, 1), 0);
            book.width(column, true);
            due("told(" + column + ", 1)", book.told(column, 1), 1);
            book.width(column, false);
            due("told(" + column + ", 1)", book.told(column, 1), 0);
        }
    }

    private static void toldF() {
        TideBook book = new TideBook();
        due("told(11, 3) of an input", book.told(11, 3), -1);
        for (int f = 0; f <= 26; f++) {
            book.formula(11, f, 0, 16, 0);
            due("told(11, 3)", book.told(11, 3), f);
        }
        book.input(11);
        due("told(11, 3) of an input again", book.told(11, 3), -1);
    }

    private static void toldBlanks() {
        TideBook book = new TideBook();
        book.formula(1, 24, 0, 16, 0);
        for (int place = 0; place < 16; place++) {
            due("told(0, 2)", book.told(0, 2), 16 - place);
            due("told(1, 2)", book.told(1, 2), place == 0 ? 16 : 17 - place);
            put(book, 0, place, -0.0);
        }
        due("told(0, 2) with none", book.told(0, 2), 0);
        due("told(1, 2)", book.told(1, 2), 1);
    }

    private static void toldOfTheBook() {
        TideBook book = new TideBook();
        book.set(0, 0, 1, 0);
        book.set(0, 0, 2, 0);
        book.back();
        book.alarm(0, 0, 0);
        book.alarm(0, 0, 0);
        book.alarm(0, 12, 0);
        book.ring();
        book.ring();
        book.ring();
        due("told(12, 0)", book.told(12, 0), 1);
        due("told(12, 1)", book.told(12, 1), 2);
        due("told(12, 2)", book.told(12, 2), 3);
    }

    private static void toldNoneSuch() {
        TideBook book = fullBook();
        for (int column : new int[] {-1, 13, 16, 23, LOWEST, HIGHEST}) {
            for (int what = 0; what < 4; what++) {
                due("told(" + column + ", " + what + ")", book.told(column, what), -1);
            }
        }
        for (int what : new int[] {-1, 4, LOWEST, HIGHEST}) {
            due("told(0, " + what + ")", book.told(0, what), -1);
            due("told(3, " + what + ")", book.told(3, what), -1);
            due("told(12, " + what + ")", book.told(12, what), -1);
        }
        due("told(12, 3)", book.told(12, 3), -1);
    }

    private static void newAndReadings() {
        says("Promise 1", "no alarms", BoundariesOfPromises::newHasNoAlarms);
        says("Promise 1", "no changes", BoundariesOfPromises::newHasNoChanges);
        says("Promise 1", "As told above", BoundariesOfPromises::newIsApartFromOthers);
        says("Promise 2", "The reading of an INPUT: m * 2^e", BoundariesOfPromises::setAtTheEdges);
        says("Promise 2", "brought to its width", BoundariesOfPromises::setBroughtToItsWidth);
        says("Promise 2", "0, and nothing is done: there is no such column", BoundariesOfPromises::setNoColumn);
        says("Promise 2", "0, and nothing is done: .. no such .. place", BoundariesOfPromises::setNoPlace);
        says("Promise 2", "0, and nothing is done: .. it has a formula", BoundariesOfPromises::setOfFormula);
        says("Promise 2", "0, and nothing is done: .. e is not -1000 .. 900", BoundariesOfPromises::setNoExponent);
        says("Promise 3", "what = 0 BLANK", () -> specialOfWhat(0, BLANK, BLANK));
        says("Promise 3", "1 infinite", () -> specialOfWhat(1, INF, INF));
        says("Promise 3", "2 infinite with a -", () -> specialOfWhat(2, -INF, -INF));
        says("Promise 3", "3 -0", () -> specialOfWhat(3, -0.0, -0.0));
        says("Promise 3", "4 the greatest number of its width that is not infinite", () -> specialOfWhat(4, MAX, NARROW_MAX));
        says("Promise 3", "5 the least one above 0", () -> specialOfWhat(5, LEAST, NARROW_LEAST));
        says("Promise 3", "Likewise:", BoundariesOfPromises::specialRefusedLikewise);
        says("Promise 3", "0, too: there is no such what.", BoundariesOfPromises::specialNoWhat);
        says("Promise 4", "A constant: m * 2^e.", BoundariesOfPromises::constantAtTheEdges);
        says("Promise 4", "0, and nothing is done: there is none such", BoundariesOfPromises::constantNone);
        says("Promise 4", "0, and nothing is done: .. e is not -1000 .. 900", BoundariesOfPromises::constantNoExponent);
        says("Promise 5", "what as by special() (of wide numbers)", BoundariesOfPromises::constantSpecialOfWide);
        says("Promise 5", "Likewise:", BoundariesOfPromises::constantSpecialRefusedLikewise);
    }

    private static void formulasAndChanges() {
        says("Promise 6", "(it had one, or not)", BoundariesOfPromises::formulaOfEither);
        says("Promise 6", "A column has a formula from now on", BoundariesOfPromises::formulaFollows);
        says("Promise 6", "0, and nothing is done: there is no such column", BoundariesOfPromises::formulaNoColumn);
        says("Promise 6", "0, and nothing is done: .. f is not 0 .. 26", BoundariesOfPromises::formulaNoF);
        says("Promise 6", "0, and nothing is done: .. a no column with a lower number", BoundariesOfPromises::formulaNoA);
        says("Promise 6", "0, and nothing is done: .. b neither such a one nor 16 .. 23", BoundariesOfPromises::formulaNoB);
        says("Promise 6", "0, and nothing is done: .. c not 0 .. 11", BoundariesOfPromises::formulaNoC);
        says("Promise 6", "(all, whether they count or not)", BoundariesOfPromises::formulaWhetherTheyCount);
        says("Promise 7", "A column is an INPUT, with the readings that it has now.", BoundariesOfPromises::inputWithWhatItHas);
        says("Promise 7", "0, and nothing is done: there is none such", BoundariesOfPromises::inputNone);
        says("Promise 7", "0, and nothing is done: .. it is one", BoundariesOfPromises::inputOfInput);
        says("Promise 8", "A column is NARROW from now on, or WIDE", BoundariesOfPromises::widthFromNowOn);
        says("Promise 8", "an INPUT's readings are brought to that", BoundariesOfPromises::widthOfInput);
        says("Promise 8", "0, and nothing is done: there is none such", BoundariesOfPromises::widthNone);
        says("Promise 8", "0, and nothing is done: .. it is so already", BoundariesOfPromises::widthSoAlready);
        says("Promise 9", "The latest change is taken back: how many can still be.", BoundariesOfPromises::backTellsHowManyAreLeft);
        says("Promise 9", "-1: there is none.", BoundariesOfPromises::backOfNone);
    }

    private static void alarmsAndRings() {
        says("Promise 10", "One more alarm: its number, from 0.", BoundariesOfPromises::alarmNumberedFrom0);
        says("Promise 10", "-1, and nothing is done: there is no such column", BoundariesOfPromises::alarmNoColumn);
        says("Promise 10", "-1, and nothing is done: there is no such .. c", BoundariesOfPromises::alarmNoC);
        says("Promise 10", "-1, and nothing is done: there is no such .. b", BoundariesOfPromises::alarmNoB);
        says("Promise 10", "-1, and nothing is done: .. there are 10", BoundariesOfPromises::alarmsAreFull);
        says("Promise 11", "at how many places alarms ring, in all", BoundariesOfPromises::ringInAll);
    }

    private static void whatIsTold() {
        says("Promise 12", "The reading, as a wide number", BoundariesOfPromises::readingOfNarrow);
        says("Promise 12", "0 where it is BLANK", BoundariesOfPromises::readingOfBlank);
        says("Promise 12", "0 where .. there is none such", () -> dueOfNoneSuch((book, at) -> Double.doubleToLongBits(book.reading(at[0], at[1]))));
        says("Promise 13", "Whether it is BLANK", BoundariesOfPromises::blankOrNot);
        says("Promise 13", "false, too, where there is none such", BoundariesOfPromises::blanksOfNoneSuch);
        says("Promise 14", "Whether it is a number with a - (-0, too).", BoundariesOfPromises::minusOrNot);
        says("Promise 14", "Whether it is a number", () -> dueOfNoneSuch((book, at) -> book.isMinus(at[0], at[1]) ? 1 : 0));
        says("Promise 15", "Its 64 bits .. the sign", BoundariesOfPromises::signBit);
        says("Promise 15", "(of a NARROW column its 32, as an int)", BoundariesOfPromises::narrowBitsAsInt);
        says("Promise 15", "the exponent and 1023", BoundariesOfPromises::exponentAnd1023);
        says("Promise 15", "the exponent and .. 127", BoundariesOfPromises::exponentAnd127);
        says("Promise 15", "0 below the least normal one", BoundariesOfPromises::belowTheLeastNormal);
        says("Promise 15", "the digits behind the point", BoundariesOfPromises::digitsBehindThePoint);
        says("Promise 15", "0 where it is BLANK", BoundariesOfPromises::bitsOfBlank);
        says("Promise 15", "0 where .. there is none such", () -> dueOfNoneSuch((book, at) -> book.bits(at[0], at[1])));
        says("Promise 16", "(or of the same one's)", BoundariesOfPromises::comparedWithItself);
        says("Promise 16", "(both as wide numbers)", BoundariesOfPromises::comparedAsWide);
        says("Promise 16", "-1: there is no such column", BoundariesOfPromises::comparedNoColumn);
        says("Promise 16", "-1: there is no such .. c", BoundariesOfPromises::comparedNoC);
        says("Promise 17", "at how many places it held (what = 0), rang (1)", BoundariesOfPromises::alarmedHeldAndRang);
        says("Promise 17", "the first place where it rang (2", BoundariesOfPromises::alarmedFirstPlace);
        says("Promise 17", "-1 nowhere", BoundariesOfPromises::alarmedNowhere);
        says("Promise 17", "-1: there is no such alarm", BoundariesOfPromises::alarmedNoAlarm);
        says("Promise 17", "-1: there is no such .. what", BoundariesOfPromises::alarmedNoWhat);
        says("Promise 17", "-1: .. it has not been looked at", BoundariesOfPromises::alarmedNotLookedAt);
        says("Promise 18", "what = 0 1 if it has a formula, else 0", BoundariesOfPromises::toldFormula);
        says("Promise 18", "1 1 if it is NARROW, else 0", BoundariesOfPromises::toldNarrow);
        says("Promise 18", "2 how many of its places are BLANK", BoundariesOfPromises::toldBlanks);
        says("Promise 18", "3 its f (-1 without a formula)", BoundariesOfPromises::toldF);
        says("Promise 18", "Of the book (column 12): 0 changes that can be taken back, 1 alarms, 2 rings.", BoundariesOfPromises::toldOfTheBook);
        says("Promise 18", "-1: there is none such.", BoundariesOfPromises::toldNoneSuch);
    }

    public static void main(String[] args) {
        newAndReadings();
        formulasAndChanges();
        alarmsAndRings();
        whatIsTold();
        end();
    }
}
