// The boundary cases that the document names under "What it is" and "Terms", but for the formulas
// one by one: numbers, comparisons, columns, changes and alarms. One test for each sentence.
public final class BoundariesOfTerms extends BoundaryTest {
    private static final String USE = "What it is";
    private static final String NUMBERS = "Terms, numbers";
    private static final String COMPARISON = "Terms, a comparison";
    private static final String COLUMNS = "Terms, columns";
    private static final String CHANGES = "Terms, changes";
    private static final String ALARMS = "Terms, alarms";

    private static void usedFor512Calls() {
        TideBook sets = new TideBook();
        for (int i = 1; i <= 512; i++) {
            due("set, call " + i, sets.set(i % 12, i % 16, i, 0), 1);
        }
        TideBook changes = new TideBook();
        for (int i = 1; i <= 510; i++) {
            due("constant, call " + i, changes.constant(0, i, 0), 1);
        }
        due("told(12, 0), call 511", changes.told(12, 0), 510);
        due("back(), call 512", changes.back(), 509);
        TideBook rings = new TideBook();
        for (int i = 1; i <= 511; i++) {
            rings.ring();
        }
        due("told(12, 2), call 512", rings.told(12, 2), 511);
        TideBook halves = new TideBook();
        for (int i = 0; i < 256; i++) {
            halves.special(3, 4, 1 + i % 5);
        }
        for (int i = 255; i >= 0; i--) {
            due("back()", halves.back(), i);
        }
    }

    // Columns 1, 5 and 9 are made of columns 0, 1 and 5, and of constant 3; none of their neighbours is.
    private static TideBook chain() {
        TideBook book = new TideBook();
        book.formula(9, 9, 5, 19, 0);
        book.formula(5, 8, 1, 16, 0);
        book.formula(1, 7, 0, 16, 0);
        book.constant(3, 100, 0);
        book.set(0, 2, 3, 0);
        return book;
    }

    // Each call that looks is the first one behind a change, so that none finds what another brought about.
    private static void alwaysWhatStandsThereNow() {
        due("bits of reading", Double.doubleToLongBits(chain().reading(9, 2)), Double.doubleToLongBits(94));
        due("bits", chain().bits(9, 2), Double.doubleToLongBits(94));
        due("isBlank", chain().isBlank(9, 2), false);
        due("isMinus", chain().isMinus(5, 2), true);
        due("told", chain().told(9, 2), 15);
        due("compared", chain().compared(9, 2, 5), 1);
        TideBook ringing = chain();
        ringing.alarm(9, 4, 9);
        due("ring", ringing.ring(), 1);
        TideBook input = chain();
        input.input(9);
        dueReading("an input", input, 9, 2, 94);
        TideBook book = chain();
        dueReading("a chain", book, 9, 2, 94);
        book.set(0, 2, 4, 0);
        dueReading("set", book, 9, 2, 92);
        book.constant(3, 200, 0);
        dueReading("constant", book, 9, 2, 192);
        book.back();
        dueReading("constant taken back", book, 9, 2, 92);
        book.back();
        dueReading("set taken back", book, 9, 2, 94);
        book.formula(1, 0, 0, 16, 0);
        dueReading("formula", book, 9, 2, 97);
        book.back();
        dueReading("formula taken back", book, 9, 2, 94);
        book.set(0, 2, 16777217, 0);
        book.width(5, true);
        dueReading("width", book, 9, 2, 100 - 33554432);
        book.width(9, true);
        dueReading("width of what has an a that is not 0", book, 9, 2, 100 - 33554432);
        book.back();
        book.back();
        dueReading("width taken back", book, 9, 2, 100 - 33554434);
        book.special(0, 2, 0);
        dueReading("special", book, 9, 2, BLANK);
    }

    // A number in a wide and in a narrow column, by all that tells of it.
    private static void dueInBoth(double number, long wideBits, long narrowBits, boolean minus) {
        TideBook book = new TideBook();
        book.width(1, true);
        for (int column = 0; column < 2; column++) {
            put(book, column, 0, number);
            dueReading("put", book, column, 0, number);
            due("isMinus of " + number, book.isMinus(column, 0), minus);
        }
        due("bits of wide " + number, book.bits(0, 0), wideBits);
        due("bits of narrow " + number, book.bits(1, 0), narrowBits);
    }

    private static void zeroAndMinusZero() {
        dueInBoth(0.0, 0L, 0L, false);
        dueInBoth(-0.0, 0x8000000000000000L, 0xFFFFFFFF80000000L, true);
    }

    private static void infiniteOfEitherSign() {
        dueInBoth(INF, 0x7FF0000000000000L, 0x7F800000L, false);
        dueInBoth(-INF, 0xFFF0000000000000L, 0xFFFFFFFFFF800000L, true);
    }

    // By all ways in which a wide number can come to a narrow column.
    private static void dueNarrow(double number, double want) {
        TideBook book = new TideBook();
        book.width(0, true);
        put(book, 0, 0, number);
        dueReading(number + " by set", book, 0, 0, want);
        put(book, 1, 0, number);
        book.formula(4, 0, 1, 16, 0);
        book.width(4, true);
        dueReading(number + " by x", book, 4, 0, want);
        book.formula(5, 18, 2, 1, 0);
        book.width(5, true);
        dueReading(number + " by y", book, 5, 0, want);
        putConstant(book, 3, number);
        book.formula(6, 18, 2, 19, 0);
        book.width(6, true);
        dueReading(number + " by a constant", book, 6, 15, want);
        book.width(1, true);
        dueReading(number + " by width", book, 1, 0, want);
    }

    private static void nearestNarrow() {
        double little = 0x1p-6;
        dueNarrow(16777217 - little, 16777216);
        dueNarrow(16777217 + little, 16777218);
        dueNarrow(-16777217 + little, -16777216);
        dueNarrow(-16777217 - little, -16777218);
        dueNarrow(0x1.000001p0 + 0x1p-30, 0x1.000002p0);
        dueNarrow(0x1.000001p0 - 0x1p-30, 1);
        dueNarrow(0x1.ffffffp-1 + 0x1p-30, 1);
        dueNarrow(0x1.ffffffp-1 - 0x1p-30, 0x1.fffffep-1);
        dueNarrow(0x1.fffffep-127, 0x1p-126);
        dueNarrow(0x1.fffffcp-127, 0x1.fffffcp-127);
    }

    private static void ofTwoTheOneWithLastBit0() {
        dueNarrow(16777217, 16777216);
        dueNarrow(16777219, 16777220);
        dueNarrow(-16777217, -16777216);
        dueNarrow(-16777219, -16777220);
        dueNarrow(0x1.ffffffp0, 2);
        dueNarrow(0x1p-150, 0.0);
        dueNarrow(0x3p-150, 0x1p-148);
        dueNarrow(0x5p-150, 0x1p-148);
        dueNarrow(-0x3p-150, -0x1p-148);
    }

    private static void beyondAllInfinite() {
        dueNarrow(NARROW_MAX, NARROW_MAX);
        dueNarrow(0x1.ffffffp127, INF);
        dueNarrow(0x1p128, INF);
        dueNarrow(0x1p900, INF);
        TideBook book = new TideBook();
        book.special(0, 0, 4);
        book.width(0, true);
        dueReading("the greatest wide one", book, 0, 0, INF);
    }

    private static void nearerTo0() {
        dueNarrow(NARROW_LEAST, NARROW_LEAST);
        dueNarrow(0x1p-150 + 0x1p-180, NARROW_LEAST);
        dueNarrow(0x1p-150 - 0x1p-180, 0.0);
        dueNarrow(0x1p-151, 0.0);
        dueNarrow(0x1p-1000, 0.0);
        TideBook book = new TideBook();
        book.special(0, 0, 5);
        book.width(0, true);
        dueReading("the least wide one", book, 0, 0, 0.0);
    }

    private static void bothWithItsSign() {
        dueNarrow(-0x1.ffffffp127, -INF);
        dueNarrow(-0x1p128, -INF);
        dueNarrow(-0x1p900, -INF);
        dueNarrow(-INF, -INF);
        dueNarrow(-0x1p-150, -0.0);
        dueNarrow(-0x1p-150 + 0x1p-180, -0.0);
        dueNarrow(-0x1p-1000, -0.0);
        dueNarrow(-0.0, -0.0);
    }

    private static void narrowIsWideToo() {
        double[] numbers = {1, -0.0, 0.0, INF, -INF, NARROW_MAX, NARROW_LEAST, -NARROW_LEAST, 0x1.fffffcp-127, 0x1.000002p0};
        TideBook book = new TideBook();
        book.width(0, true);
        putAll(book, 0, numbers);
        book.formula(1, 0, 0, 16, 0);
        dueColumn("a wide column made of a narrow one", book, 1, numbers);
        due("width(0, false)", book.width(0, false), 1);
        dueColumn("wide again", book, 0, numbers);
    }

    private static void blankStaysBlank() {
        TideBook book = new TideBook();
        book.set(0, 1, 3, 0);
        book.formula(1, 0, 0, 16, 0);
        book.width(1, true);
        book.formula(2, 0, 1, 16, 0);
        book.width(0, true);
        dueColumn("brought to narrow", book, 0, BLANK, 3);
        book.width(0, false);
        dueColumn("brought to wide", book, 0, BLANK, 3);
        dueColumn("narrow of wide", book, 1, BLANK, 3);
        dueColumn("wide of narrow", book, 2, BLANK, 3);
    }

    private static void reckonedIsRoundedLikewise() {
        narrow(9, 0, row(16777216, 16777216, 16777216, NARROW_MAX, -NARROW_MAX), row(1, 3, 1 + 0x1p-20, NARROW_MAX, -NARROW_MAX),
            16777216, 16777220, 16777218, INF, -INF);
        narrow(11, 0, row(NARROW_LEAST, NARROW_LEAST, NARROW_LEAST, -NARROW_LEAST, 0x1p100), row(0.5, 0.75, 2.5, 0.5, 0x1p28),
            0.0, NARROW_LEAST, 2 * NARROW_LEAST, -0.0, INF);
        narrow(6, 0, row(0x1.000002p-126, 0x1.000006p-126, NARROW_LEAST, -NARROW_LEAST), row(1),
            0x1p-127, 0x1.000008p-127, 0.0, -0.0);
        wide(9, 0, row(0x1p53, 0x1p53, -0x1p53, -0x1p53, MAX, MAX), row(1, 3, -1, -3, MAX, 0x1p930),
            0x1p53, 0x1p53 + 4, -0x1p53, -0x1p53 - 4, INF, MAX);
        wide(11, 0, row(LEAST, LEAST, LEAST, LEAST, MAX, 0x1p900), row(0.5, 0.75, 1.5, 2.5, -2, 0x1p124),
            0.0, LEAST, 2 * LEAST, 2 * LEAST, -INF, INF);
        narrow(12, 0, row(1, 1, -1, 2), row(3, 10, 3, 3), 1f / 3f, 0.1f, -1f / 3f, 2f / 3f);
        wide(12, 0, row(1, 1, -1, 2), row(3, 10, 3, 3), 1.0 / 3, 0.1, -1.0 / 3, 2.0 / 3);
    }

    // A bit for each of the comparisons from .. to, by all calls that compare: x and y stand at all places.
    private static void dueSo(int from, int to, double x, double y, String sos) {
        for (int c = from; c <= to; c++) {
            int want = sos.charAt(c - from) == '1' ? 16 : 0;
            String what = "comparison " + c + " of " + x + " and " + y;
            TideBook book = new TideBook();
            putAll(book, 0, all(x));
            putAll(book, 1, all(y));
            putConstant(book, 0, y);
            due(what + " by compared", book.compared(0, c, 1), want);
            book.alarm(0, c, 1);
            book.alarm(0, c, 16);
            due(what + " by ring", book.ring(), 2 * want);
            book.formula(2, 25, 0, 1, c);
            dueReading(what + " by 25", book, 2, 15, want);
            book.formula(3, 17, 0, 16, c);
            due(what + " by 17", book.told(3, 2), want == 16 && !book.isBlank(0, 0) ? 0 : 16);
        }
    }

    private static void plainComparisons() {
        double more = 1 + 0x1p-30;
        dueSo(0, 5, 1, more, "110001");
        dueSo(0, 5, more, 1, "001101");
        dueSo(0, 5, more, more, "010110");
        dueSo(0, 5, -1, 1, "110001");
        dueSo(0, 5, MAX, INF, "110001");
        dueSo(0, 5, INF, MAX, "001101");
        dueSo(0, 5, INF, INF, "010110");
        dueSo(0, 5, -INF, -INF, "010110");
        dueSo(0, 5, -INF, INF, "110001");
        dueSo(0, 5, 0.0, LEAST, "110001");
    }

    private static void notSoComparisons() {
        double more = 1 + 0x1p-30;
        dueSo(6, 11, 1, more, "001110");
        dueSo(6, 11, more, 1, "110010");
        dueSo(6, 11, more, more, "101001");
        dueSo(6, 11, MAX, INF, "001110");
        dueSo(6, 11, INF, MAX, "110010");
        dueSo(6, 11, -INF, -INF, "101001");
        dueSo(6, 11, LEAST, -0.0, "110010");
    }

    private static void zerosAreEqual() {
        dueSo(0, 11, 0.0, -0.0, "010110101001");
        dueSo(0, 11, -0.0, 0.0, "010110101001");
        dueSo(0, 11, -0.0, -0.0, "010110101001");
    }

    private static void dueSoOfBlanks(int from, int to, String sos) {
        for (double number : new double[] {1, 0.0, -INF}) {
            dueSo(from, to, BLANK, number, sos);
            dueSo(from, to, number, BLANK, sos);
        }
        dueSo(from, to, BLANK, BLANK, sos);
    }

    private static void cornersOfTheColumns() {
        TideBook book = new TideBook();
        int number = 0;
        for (int column = 0; column < 12; column += 11) {
            for (int place = 0; place < 16; place += 15) {
                number++;
                due("set(" + column + ", " + place + ")", book.set(column, place, number, 0), 1);
            }
        }
        dueReading("a corner", book, 0, 0, 1);
        dueReading("a corner", book, 0, 15, 2);
        dueReading("a corner", book, 11, 0, 3);
        dueReading("a corner", book, 11, 15, 4);
        for (int column = 0; column < 12; column++) {
            due("told(" + column + ", 2)", book.told(column, 2), column % 11 == 0 ? 14 : 16);
        }
    }

    private static void wideInputsAtFirst() {
        for (int column = 0; column < 12; column++) {
            TideBook book = new TideBook();
            due("told(" + column + ", 0)", book.told(column, 0), 0);
            due("told(" + column + ", 1)", book.told(column, 1), 0);
            due("told(" + column + ", 3)", book.told(column, 3), -1);
            due("width(" + column + ", false)", book.width(column, false), 0);
            due("input(" + column + ")", book.input(column), 0);
            due("set(" + column + ", ..)", book.set(column, 8, 16777217, 0), 1);
            dueReading("a wide input", book, column, 8, 16777217);
        }
    }

    private static void blankAtFirst() {
        for (int column = 0; column < 12; column++) {
            TideBook book = new TideBook();
            due("told(" + column + ", 2)", book.told(column, 2), 16);
            dueColumn("at first", book, column);
        }
    }

    private static void constantsAreWide() {
        for (int k = 0; k < 8; k += 7) {
            TideBook book = new TideBook();
            due("constant(" + k + ", ..)", book.constant(k, 16777217, 0), 1);
            book.formula(11, 18, 0, 16 + k, 0);
            dueColumn("a constant", book, 11, all(16777217));
            due("constantSpecial(" + k + ", 5)", book.constantSpecial(k, 5), 1);
            dueReading("the least wide one", book, 11, 3, LEAST);
        }
    }

    private static void constantsBlankAtFirst() {
        for (int k = 0; k < 8; k++) {
            TideBook book = new TideBook();
            book.formula(11, 18, 0, 16 + k, 0);
            dueColumn("constant " + k, book, 11);
            book.set(0, 0, 1, 0);
            book.alarm(0, 4, 16 + k);
            book.alarm(0, 5, 16 + k);
            due("ring()", book.ring(), 16);
        }
    }

    private static void aIsLower() {
        TideBook book = new TideBook();
        for (int column = 0; column < 12; column++) {
            book.set(column, 6, column + 1, 0);
        }
        due("formula(11, 0, 10, ..)", book.formula(11, 0, 10, 16, 0), 1);
        dueReading("the next lower", book, 11, 6, 11);
        due("formula(11, 0, 0, ..)", book.formula(11, 0, 0, 16, 0), 1);
        dueReading("the lowest", book, 11, 6, 1);
        due("formula(1, 0, 0, ..)", book.formula(1, 0, 0, 16, 0), 1);
        dueReading("the lowest with a formula", book, 1, 6, 1);
        due("formula(2, 0, 2, ..)", book.formula(2, 0, 2, 16, 0), 0);
        due("formula(2, 0, 3, ..)", book.formula(2, 0, 3, 16, 0), 0);
    }

    private static void bIsLowerOrConstant() {
        TideBook book = new TideBook();
        for (int column = 1; column < 12; column++) {
            book.set(column, 6, column, 0);
        }
        for (int k = 0; k < 8; k++) {
            book.constant(k, 100 + k, 0);
        }
        for (int b = 1; b < 11; b++) {
            due("formula(11, 18, 0, " + b + ", 0)", book.formula(11, 18, 0, b, 0), 1);
            dueReading("b is column " + b, book, 11, 6, b);
        }
        due("formula(11, 18, 0, 11, 0)", book.formula(11, 18, 0, 11, 0), 0);
        due("formula(11, 18, 0, 15, 0)", book.formula(11, 18, 0, 15, 0), 0);
        for (int k = 0; k < 8; k++) {
            due("formula(11, 18, 0, " + (16 + k) + ", 0)", book.formula(11, 18, 0, 16 + k, 0), 1);
            dueReading("b is constant " + k, book, 11, 6, 100 + k);
        }
        due("formula(11, 18, 0, 24, 0)", book.formula(11, 18, 0, 24, 0), 0);
    }

    // Two formulas that differ in what does not count make the same of column 0.
    private static void dueNotCounting(int f, int b, int c, int otherB, int otherC) {
        TideBook book = new TideBook();
        putAll(book, 0, 2.5, -1, INF, BLANK, 0.0, -0.0, 7, 7, -3);
        book.constant(1, 3, 0);
        book.formula(1, f, 0, b, c);
        book.formula(2, f, 0, otherB, otherC);
        for (int place = 0; place < 16; place++) {
            String what = "formula " + f + " at " + place + " with b, c = " + b + ", " + c + " and " + otherB + ", " + otherC;
            due("bits of " + what, book.bits(2, place), book.bits(1, place));
            due("isBlank of " + what, book.isBlank(2, place), book.isBlank(1, place));
        }
    }

    private static void fTellsWhatCounts() {
        for (int f = 0; f <= 26; f++) {
            boolean cCounts = f == 17 || f == 25;
            boolean bCounts = cCounts || f >= 9 && f <= 16 || f == 18 || f == 26;
            if (!bCounts) {
                dueNotCounting(f, 16, 0, 17, 11);
            } else if (!cCounts) {
                dueNotCounting(f, 17, 0, 17, 11);
                dueNotCounting(f, 17, 0, 17, 5);
            }
        }
        both(17, 0, row(1, 2, 3), row(2), 1);
        both(17, 3, row(1, 2, 3), row(2), BLANK, 2, 3);
    }

    private static void yIsThere() {
        TideBook book = new TideBook();
        for (int place = 0; place < 16; place++) {
            book.set(0, place, 100 * place, 0);
            book.set(1, place, place + 1, 0);
        }
        book.constant(7, 5, 0);
        book.formula(2, 9, 0, 1, 0);
        book.formula(3, 9, 0, 23, 0);
        for (int place = 0; place < 16; place++) {
            dueReading("x + y", book, 2, place, 101 * place + 1);
            dueReading("x + a constant", book, 3, place, 100 * place + 5);
        }
    }

    private static void bothBroughtToTheWidth() {
        narrow(10, 0, row(16777217, 16777216), row(16777216, 16777217), 0.0, 0.0);
        narrow(10, 0, row(16777216), row(16777217), 0.0);
        wide(10, 0, row(16777217, 16777216), row(16777216, 16777217), 1, -1);
        narrow(12, 0, row(0x1p200, 0x1p-200, 1, 1), row(0x1p200, 0x1p-200, 0x1p-200, -0x1p-200), BLANK, BLANK, INF, -INF);
        wide(12, 0, row(0x1p200, 0x1p-200), row(0x1p200, 0x1p-200), 1, 1);
        narrow(13, 0, row(16777217, 5), row(16777216, 0x1p-200), 0.0, BLANK);
        narrow(14, 0, row(16777217), row(16777219), 16777216);
        narrow(17, 4, row(16777217, 16777216), row(16777216, 16777217), 16777216, 16777216);
        wide(17, 4, row(16777217, 16777216), row(16777216, 16777217));
        narrow(23, 0, row(16777217, 16777216, 16777219), row(1), 0.0, 0.0, 2);
        wide(23, 0, row(16777217, 16777216, 16777219), row(1), 1, 0.0, 2);
        narrow(25, 4, row(16777217), row(16777216), all(1));
        narrow(24, 0, row(16777216, 16777217), row(1), BLANK, 0.0);
        narrow(4, 0, row(0.5 + 0x1p-30), row(1), 0.0);
        wide(4, 0, row(0.5 + 0x1p-30), row(1), 1);
    }

    private static void blankWhereXIs() {
        for (int f = 0; f <= 26; f++) {
            if (f >= 18 && f <= 22 || f == 25) {
                continue;
            }
            both(f, 5, all(BLANK), all(3));
            for (int place = 0; place < 16; place += 5) {
                double[] xs = all(4);
                xs[place] = BLANK;
                TideBook book = new TideBook();
                putAll(book, 0, xs);
                putAll(book, 1, all(3));
                book.formula(2, f, 0, 1, 5);
                due("formula " + f + " where x is BLANK, " + place, book.isBlank(2, place), true);
                due("formula " + f + " where x is 4", book.isBlank(2, (place + 2) % 16), false);
            }
        }
    }

    private static void blankWhereYIs() {
        for (int f = 9; f <= 26; f++) {
            if (f > 16 && f < 26) {
                continue;
            }
            both(f, 5, all(4), row(BLANK));
            TideBook book = new TideBook();
            putAll(book, 0, all(4));
            put(book, 1, 0, 3);
            put(book, 1, 15, 3);
            book.formula(2, f, 0, 1, 0);
            due("formula " + f + ": places BLANK", book.told(2, 2), 14);
            due("formula " + f + " where y is 3", book.isBlank(2, 0), false);
            due("formula " + f + " where y is 3", book.isBlank(2, 15), false);
        }
        // By the others it is not.
        for (int f = 0; f <= 8; f++) {
            TideBook book = new TideBook();
            putAll(book, 0, all(4));
            book.formula(1, f, 0, 16, 0);
            due("formula " + f + ": places BLANK", book.told(1, 2), 0);
        }
        both(17, 5, all(4), row(BLANK), all(4));
        both(18, 0, all(4), row(BLANK), all(4));
        both(23, 0, all(4), row(BLANK), all(0.0));
        both(25, 5, row(4), row(BLANK), 1, 2, 3, 4, 5, 6, 7, 8, 9, 10, 11, 12, 13, 14, 15, 16);
    }

    private static void zeroOfSums() {
        both(9, 0, row(0.0, 0.0, -0.0, -0.0, 5, -5), row(0.0, -0.0, 0.0, -0.0, -5, 5), 0.0, 0.0, 0.0, -0.0, 0.0, 0.0);
        both(9, 0, row(0.0, -0.0), row(-0.0), 0.0, -0.0);
        both(10, 0, row(5, -5), row(5, -5), 0.0, 0.0);
        both(24, 0, row(5, 5, -5, -5), row(1), BLANK, 0.0, -10, 0.0);
    }

    private static void zeroOfDifferences() {
        both(10, 0, row(0.0, 0.0, -0.0, -0.0), row(0.0, -0.0, 0.0, -0.0), 0.0, 0.0, -0.0, 0.0);
        both(10, 0, row(0.0, -0.0), row(0.0), 0.0, -0.0);
        both(24, 0, row(0.0, -0.0, -0.0, 0.0, 0.0), row(1), BLANK, -0.0, 0.0, 0.0, 0.0);
    }

    private static void zeroOf11And12() {
        both(11, 0, row(0.0, 0.0, -0.0, -0.0, 3, -3, -3, 0.0), row(0.0, -0.0, 0.0, -0.0, -0.0, 0.0, -0.0, -7),
            0.0, -0.0, -0.0, 0.0, -0.0, -0.0, 0.0, -0.0);
        wide(11, 0, row(LEAST, LEAST, -0x1p-900), row(LEAST, -0.25, -0x1p-900), 0.0, -0.0, 0.0);
        narrow(11, 0, row(0x1p-100, 0x1p-100, -0x1p-100), row(0x1p-100, -0x1p-100, -0x1p-100), 0.0, -0.0, 0.0);
        both(12, 0, row(0.0, 0.0, -0.0, -0.0, 3, 3, -3, -3), row(2, -2, 2, -2, INF, -INF, INF, -INF),
            0.0, -0.0, -0.0, 0.0, 0.0, -0.0, -0.0, 0.0);
        wide(12, 0, row(LEAST, LEAST, -0x1p-900), row(4, -4, -0x1p900), 0.0, -0.0, 0.0);
        narrow(12, 0, row(0x1p-100, 0x1p-100, -0x1p-100), row(0x1p100, -0x1p100, -0x1p100), 0.0, -0.0, 0.0);
    }

    private static void infiniteOf11And12() {
        both(11, 0, row(INF, INF, -INF, -INF, 2, -2, -2), row(INF, -INF, INF, -INF, -INF, INF, -INF), INF, -INF, -INF, INF, -INF, -INF, INF);
        wide(11, 0, row(MAX, MAX, -0x1p900), row(MAX, -0x1p900, -0x1p900), INF, -INF, INF);
        narrow(11, 0, row(0x1p100, 0x1p100, -0x1p100), row(0x1p100, -0x1p100, -0x1p100), INF, -INF, INF);
        both(12, 0, row(INF, INF, -INF, -INF, 2, 2, -2, -2), row(3, -3, 3, -0.0, 0.0, -0.0, 0.0, -0.0),
            INF, -INF, -INF, INF, INF, -INF, -INF, INF);
        wide(12, 0, row(MAX, MAX, -0x1p900), row(LEAST, -0.5, -0x1p-900), INF, -INF, INF);
        narrow(12, 0, row(0x1p100, 0x1p100, -0x1p100), row(0x1p-100, -0x1p-100, -0x1p-100), INF, -INF, INF);
    }

    private static void zeroOf26() {
        both(26, 0, row(0.0, 0.0, -0.0, -0.0, 1, 1, -1, -1, 0.5), row(3, -3, 3, -3, 3, -3, 3, -3, -1),
            0.0, 0.0, -0.0, -0.0, 0.0, 0.0, -0.0, -0.0, 0.0);
        wide(26, 0, row(LEAST, -0x1p-1000), row(-0x1p900, -0x1p900), 0.0, -0.0);
    }

    // A change that leaves all as it is counts, and can be taken back.
    private static void changesThatLeaveAllAsItIs() {
        TideBook book = new TideBook();
        due("set", book.set(0, 0, 1, 0), 1);
        due("the same set", book.set(0, 0, 2, -1), 1);
        due("told(12, 0)", book.told(12, 0), 2);
        due("special", book.special(1, 0, 0), 1);
        due("told(12, 0)", book.told(12, 0), 3);
        due("constant", book.constant(0, 1, 0), 1);
        due("the same constant", book.constant(0, 1, 0), 1);
        due("told(12, 0)", book.told(12, 0), 5);
        due("constantSpecial", book.constantSpecial(1, 0), 1);
        due("told(12, 0)", book.told(12, 0), 6);
        due("formula", book.formula(2, 0, 0, 16, 0), 1);
        due("the same formula", book.formula(2, 0, 0, 16, 0), 1);
        due("told(12, 0)", book.told(12, 0), 8);
        due("back()", book.back(), 7);
        due("told(2, 3)", book.told(2, 3), 0);
        due("back()", book.back(), 6);
        due("told(2, 3)", book.told(2, 3), -1);
        due("back()", book.back(), 5);
        due("back()", book.back(), 4);
        due("back()", book.back(), 3);
        due("back()", book.back(), 2);
        due("back()", book.back(), 1);
        dueReading("the first set", book, 0, 0, 1);
        due("back()", book.back(), 0);
        dueReading("before it", book, 0, 0, BLANK);
    }

    private static void refusedOnesAreNone() {
        TideBook book = new TideBook();
        book.set(0, 0, 1, 0);
        book.set(0, 16, 1, 0);
        book.special(0, 0, 6);
        book.constant(8, 1, 0);
        book.constantSpecial(8, 1);
        book.formula(0, 0, 0, 0, 0);
        book.input(0);
        book.width(0, false);
        due("told(12, 0)", book.told(12, 0), 1);
        due("back()", book.back(), 0);
        dueReading("the one that was none of these", book, 0, 0, BLANK);
        due("back()", book.back(), -1);
    }

    private static void latestNotYetTakenBack() {
        TideBook book = new TideBook();
        for (int number = 1; number <= 4; number++) {
            book.set(0, 0, number, 0);
        }
        book.back();
        dueReading("4 taken back", book, 0, 0, 3);
        book.back();
        dueReading("3 taken back", book, 0, 0, 2);
        book.set(0, 0, 9, 0);
        book.back();
        dueReading("9 taken back", book, 0, 0, 2);
        book.back();
        dueReading("2 taken back", book, 0, 0, 1);
        book.back();
        dueReading("all taken back", book, 0, 0, BLANK);
    }

    private static void asBeforeIt() {
        TideBook book = new TideBook();
        putAll(book, 0, 16777217, -0.0, BLANK);
        book.constant(0, 3, 0);
        book.formula(1, 9, 0, 16, 0);
        book.width(0, true);
        dueColumn("narrow", book, 1, 16777219, 3);
        book.back();
        dueColumn("width taken back", book, 0, 16777217, -0.0);
        due("told(0, 1)", book.told(0, 1), 0);
        dueColumn("and what is made of it", book, 1, 16777220, 3);
        book.constantSpecial(0, 0);
        book.back();
        dueColumn("constantSpecial taken back", book, 1, 16777220, 3);
        book.input(1);
        book.set(1, 2, 8, 0);
        book.back();
        book.back();
        due("told(1, 3)", book.told(1, 3), 9);
        book.set(0, 2, 1, 0);
        dueColumn("input taken back", book, 1, 16777220, 3, 4);
        book.formula(1, 10, 0, 16, 0);
        book.back();
        dueColumn("formula taken back", book, 1, 16777220, 3, 4);
        book.special(0, 2, 2);
        book.back();
        dueColumn("special taken back", book, 0, 16777217, -0.0, 1);
        book.constant(0, 8, 0);
        book.back();
        dueReading("constant taken back", book, 1, 1, 3);
        book.set(0, 0, 2, 0);
        book.back();
        dueReading("set taken back", book, 1, 0, 16777220);
        book.width(0, true);
        book.set(0, 0, 2, 0);
        book.back();
        due("told(0, 1) of a narrow one", book.told(0, 1), 1);
        dueReading("set in a narrow one taken back", book, 0, 0, 16777216);
        book.width(0, false);
        book.back();
        due("told(0, 1) with its way back to wide taken back", book.told(0, 1), 1);
    }

    private static void alarmsAreNotTakenBack() {
        TideBook book = new TideBook();
        book.set(0, 0, 1, 0);
        due("alarm", book.alarm(0, 4, 0), 0);
        book.set(0, 1, 1, 0);
        due("ring()", book.ring(), 2);
        due("back()", book.back(), 1);
        due("back()", book.back(), 0);
        due("back()", book.back(), -1);
        due("told(12, 1)", book.told(12, 1), 1);
        due("told(12, 2)", book.told(12, 2), 1);
        due("alarmed(0, 0)", book.alarmed(0, 0), 2);
        due("alarmed(0, 1)", book.alarmed(0, 1), 2);
        due("ring()", book.ring(), 0);
        due("alarmed(0, 0)", book.alarmed(0, 0), 0);
    }

    private static void atMost10Alarms() {
        TideBook book = new TideBook();
        for (int number = 0; number < 10; number++) {
            due("alarm no. " + number, book.alarm(number, 5, 16), number);
        }
        due("the eleventh alarm", book.alarm(0, 5, 16), -1);
        due("told(12, 1)", book.told(12, 1), 10);
        due("ring()", book.ring(), 160);
        due("alarmed(9, 0)", book.alarmed(9, 0), 16);
        due("alarmed(10, 0)", book.alarmed(10, 0), -1);
    }

    private static void whatAlarmsAreToldBy() {
        TideBook book = new TideBook();
        putAll(book, 0, 1, 2, 3);
        putAll(book, 11, 1, 3, 2);
        book.constant(0, 2, 0);
        book.constant(7, 3, 0);
        due("alarm of the same column", book.alarm(11, 4, 11), 0);
        due("alarm of columns 11 and 0", book.alarm(11, 2, 0), 1);
        due("alarm of columns 0 and 11", book.alarm(0, 2, 11), 2);
        due("alarm of constant 0", book.alarm(0, 4, 16), 3);
        due("alarm of constant 7", book.alarm(11, 4, 23), 4);
        due("alarm by 11", book.alarm(0, 11, 0), 5);
        due("ring()", book.ring(), 3 + 1 + 1 + 1 + 1 + 3);
        int[] first = {0, 1, 2, 1, 1, 0};
        for (int number = 0; number < 6; number++) {
            due("alarmed(" + number + ", 2)", book.alarmed(number, 2), first[number]);
        }
    }

    private static void lookedAtAtAllPlaces() {
        for (int place = 0; place < 16; place++) {
            TideBook book = new TideBook();
            book.set(4, place, 1, 0);
            book.alarm(4, 4, 4);
            due("ring() for place " + place, book.ring(), 1);
            due("alarmed(0, 2)", book.alarmed(0, 2), place);
        }
    }

    private static void holdsByWideNumbers() {
        TideBook book = new TideBook();
        book.width(1, true);
        book.set(0, 0, 16777217, 0);
        book.set(1, 0, 16777217, 0);
        book.constant(0, 16777217, 0);
        book.alarm(1, 4, 0);
        book.alarm(0, 2, 1);
        book.alarm(1, 0, 16);
        book.alarm(1, 4, 16);
        book.ring();
        due("16777216 = 16777217", book.alarmed(0, 0), 0);
        due("16777217 > 16777216", book.alarmed(1, 0), 1);
        due("16777216 < a constant", book.alarmed(2, 0), 1);
        due("16777216 = a constant", book.alarmed(3, 0), 0);
    }

    private static void ringsWhereItDidNotHold() {
        TideBook book = new TideBook();
        book.constant(0, 0, 0);
        book.alarm(0, 2, 16);
        putAll(book, 0, 1, -1, 1, -1);
        due("the first ring", book.ring(), 2);
        putAll(book, 0, 1, 1, -1, -1);
        due("a ring with one more and one less", book.ring(), 1);
        due("held", book.alarmed(0, 0), 2);
        due("the first place", book.alarmed(0, 2), 1);
        due("a ring with nothing new", book.ring(), 0);
        due("held", book.alarmed(0, 0), 2);
        put(book, 0, 0, -1);
        put(book, 0, 0, 1);
        due("it did not hold between, but at the ring before it did", book.ring(), 0);
        put(book, 0, 0, BLANK);
        due("it holds less", book.ring(), 0);
        put(book, 0, 0, 1);
        due("it holds again", book.ring(), 1);
    }

    private static void nowhereAheadOfTheFirst() {
        TideBook book = new TideBook();
        putAll(book, 0, 1, 2, 3);
        book.ring();
        book.alarm(0, 4, 0);
        due("alarmed before a look", book.alarmed(0, 0), -1);
        due("the first ring that it is looked at", book.ring(), 3);
        book.alarm(0, 4, 0);
        due("of the second one alone", book.ring(), 3);
        due("alarmed(0, 1)", book.alarmed(0, 1), 0);
        due("alarmed(1, 1)", book.alarmed(1, 1), 3);
    }

    private static void numbersAndComparisons() {
        says(USE, "An object is used for at most 512 calls after it has been made", BoundariesOfTerms::usedFor512Calls);
        says(USE, "columns that are made of others by formulas are always what these make of what stands there now", BoundariesOfTerms::alwaysWhatStandsThereNow);
        says(NUMBERS, "among them 0 and -0", BoundariesOfTerms::zeroAndMinusZero);
        says(NUMBERS, "and one infinite number of either sign", BoundariesOfTerms::infiniteOfEitherSign);
        says(NUMBERS, "take the nearest narrow one", BoundariesOfTerms::nearestNarrow);
        says(NUMBERS, "of two the one whose last bit is 0", BoundariesOfTerms::ofTwoTheOneWithLastBit0);
        says(NUMBERS, "beyond all: infinite", BoundariesOfTerms::beyondAllInfinite);
        says(NUMBERS, "what is nearer to 0 than to the least one: 0", BoundariesOfTerms::nearerTo0);
        says(NUMBERS, "both with its sign", BoundariesOfTerms::bothWithItsSign);
        says(NUMBERS, "a narrow one is a wide one, too", BoundariesOfTerms::narrowIsWideToo);
        says(NUMBERS, "BLANK stays BLANK.", BoundariesOfTerms::blankStaysBlank);
        says(NUMBERS, "What a formula reckons is rounded likewise, to the width of its column.", BoundariesOfTerms::reckonedIsRoundedLikewise);
        says(COMPARISON, "0 less, 1 less or equal, 2 greater, 3 greater or equal, 4 equal, 5 not equal", BoundariesOfTerms::plainComparisons);
        says(COMPARISON, "6 to 11: it is not so by 0 to 5", BoundariesOfTerms::notSoComparisons);
        says(COMPARISON, "0 and -0 are equal.", BoundariesOfTerms::zerosAreEqual);
        says(COMPARISON, "Where one of the two is BLANK (or both are) 0 to 4 are not so", () -> dueSoOfBlanks(0, 4, "00000"));
        says(COMPARISON, "5 is so", () -> dueSoOfBlanks(5, 5, "1"));
        says(COMPARISON, "6 to 10 are so", () -> dueSoOfBlanks(6, 10, "11111"));
        says(COMPARISON, "11 is not so", () -> dueSoOfBlanks(11, 11, "0"));
    }

    private static void columnsAndSigns() {
        says(COLUMNS, "COLUMNS 0 .. 11 have 16 PLACES, 0 .. 15, each", BoundariesOfTerms::cornersOfTheColumns);
        says(COLUMNS, "at first all are WIDE INPUTS", BoundariesOfTerms::wideInputsAtFirst);
        says(COLUMNS, "all places BLANK", BoundariesOfTerms::blankAtFirst);
        says(COLUMNS, "CONSTANTS 0 .. 7 are wide readings", BoundariesOfTerms::constantsAreWide);
        says(COLUMNS, "BLANK at first", BoundariesOfTerms::constantsBlankAtFirst);
        says(COLUMNS, "a a column with a lower number than its own", BoundariesOfTerms::aIsLower);
        says(COLUMNS, "b likewise, or 16 .. 23: CONSTANT b - 16", BoundariesOfTerms::bIsLowerOrConstant);
        says(COLUMNS, "(f tells which of them count.)", BoundariesOfTerms::fTellsWhatCounts);
        says(COLUMNS, "y that of b there (or the constant)", BoundariesOfTerms::yIsThere);
        says(COLUMNS, "both brought to the column's width", BoundariesOfTerms::bothBroughtToTheWidth);
        says(COLUMNS, "By 0 to 17, 23, 24, 26 it is BLANK where x is", BoundariesOfTerms::blankWhereXIs);
        says(COLUMNS, "by 9 to 16, 26 also where y is", BoundariesOfTerms::blankWhereYIs);
        says(COLUMNS, "A 0 that comes of 9, 10, 24 is -0 just if both that are added are -0", BoundariesOfTerms::zeroOfSums);
        says(COLUMNS, "(10, 24: what is taken away with its other sign)", BoundariesOfTerms::zeroOfDifferences);
        says(COLUMNS, "of 11, 12 it .. has a - just if one of x and y has one", BoundariesOfTerms::zeroOf11And12);
        says(COLUMNS, "of 11, 12 .. what is infinite, has a - just if one of x and y has one", BoundariesOfTerms::infiniteOf11And12);
        says(COLUMNS, "of 26 it has x's sign", BoundariesOfTerms::zeroOf26);
    }

    private static void changesAndAlarms() {
        says(CHANGES, "that are not refused", BoundariesOfTerms::refusedOnesAreNone);
        says(CHANGES, "(also such as leave all as it is)", BoundariesOfTerms::changesThatLeaveAllAsItIs);
        says(CHANGES, "back() takes back the latest one that was not yet taken back", BoundariesOfTerms::latestNotYetTakenBack);
        says(CHANGES, "columns, constants and formulas are as before it", BoundariesOfTerms::asBeforeIt);
        says(CHANGES, "(Alarms are not taken back.)", BoundariesOfTerms::alarmsAreNotTakenBack);
        says(ALARMS, "ALARMS, at most 10", BoundariesOfTerms::atMost10Alarms);
        says(ALARMS, "b (a column, also the same one, or 16 .. 23: a constant)", BoundariesOfTerms::whatAlarmsAreToldBy);
        says(ALARMS, "At a RING each alarm is looked at, at all places", BoundariesOfTerms::lookedAtAtAllPlaces);
        says(ALARMS, "it HOLDS where c of the column's reading and b's is so (both as wide numbers)", BoundariesOfTerms::holdsByWideNumbers);
        says(ALARMS, "RINGS where it holds and did not at the ring before", BoundariesOfTerms::ringsWhereItDidNotHold);
        says(ALARMS, "(nowhere, ahead of the first one that it is looked at)", BoundariesOfTerms::nowhereAheadOfTheFirst);
    }

    public static void main(String[] args) {
        numbersAndComparisons();
        columnsAndSigns();
        changesAndAlarms();
        end();
    }
}
