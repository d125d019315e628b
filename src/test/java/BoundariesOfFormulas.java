// The boundary cases that the document names of the formulas 0 to 26. One test for each sentence.
public final class BoundariesOfFormulas extends BoundaryTest {
    // For formulas to which y is nothing.
    private static final double[] NONE = {BLANK};
    private static final double HALF_MAX = MAX / 2;

    private static void plainX() {
        wide(0, 0, row(0.0, -0.0, INF, -INF, MAX, LEAST, -7, BLANK), NONE, 0.0, -0.0, INF, -INF, MAX, LEAST, -7, BLANK);
        narrow(0, 0, row(0.0, -0.0, INF, -INF, MAX, LEAST, -7, BLANK), NONE, 0.0, -0.0, INF, -INF, INF, 0.0, -7, BLANK);
    }

    private static void withoutSign() {
        both(1, 0, row(-0.0, 0.0, -INF, INF, -NARROW_LEAST, -NARROW_MAX, 3, -3), NONE, 0.0, 0.0, INF, INF, NARROW_LEAST, NARROW_MAX, 3, 3);
    }

    private static void notAbove() {
        both(2, 0, row(1, 1.5, 2 - 0x1p-20, -1, -1.5, -2 + 0x1p-20, NARROW_LEAST, -NARROW_LEAST), NONE, 1, 1, 1, -1, -2, -2, 0.0, -1);
        both(2, 0, row(8388607.5, -8388607.5, 8388608, 16777215, -16777215, NARROW_MAX, -NARROW_MAX), NONE,
            8388607, -8388608, 8388608, 16777215, -16777215, NARROW_MAX, -NARROW_MAX);
        wide(2, 0, row(2147483647 / 2.0, -2147483647 / 2.0, 0x1p52, -0x1p63, 0x1p63, 0x1p900, -0x1p900, MAX), NONE,
            1073741823, -1073741824, 0x1p52, -0x1p63, 0x1p63, 0x1p900, -0x1p900, MAX);
    }

    private static void notBelow() {
        both(3, 0, row(1, 1.5, 1 + 0x1p-20, -1, -1.5, -1 - 0x1p-20, NARROW_LEAST, -NARROW_LEAST), NONE, 1, 2, 2, -1, -1, -1, 1, -0.0);
        both(3, 0, row(8388607.5, -8388607.5, 8388608, 16777215, -16777215, NARROW_MAX, -NARROW_MAX), NONE,
            8388608, -8388607, 8388608, 16777215, -16777215, NARROW_MAX, -NARROW_MAX);
        wide(3, 0, row(2147483647 / 2.0, -2147483647 / 2.0, 0x1p52, -0x1p63, 0x1p63, 0x1p900, -0x1p900, MAX), NONE,
            1073741824, -1073741823, 0x1p52, -0x1p63, 0x1p63, 0x1p900, -0x1p900, MAX);
    }

    private static void nearestWhole() {
        double little = 0x1p-20;
        both(4, 0, row(1.5 - little, 1.5 + little, -1.5 + little, -1.5 - little, 0.5 - little, 0.5 + little), NONE, 1, 2, -1, -2, 0.0, 1);
        wide(4, 0, row(0x1p52, 0x1p63, -0x1p900, MAX), NONE, 0x1p52, 0x1p63, -0x1p900, MAX);
        narrow(4, 0, row(16777215, -16777215, NARROW_MAX, 0x1p63), NONE, 16777215, -16777215, NARROW_MAX, 0x1p63);
        // The greatest number below a half: with a half added it would be rounded to 1.
        narrow(4, 0, row(0x1.fffffep-2, -0x1.fffffep-2), NONE, 0.0, -0.0);
    }

    private static void ofTwoTheEvenOne() {
        both(4, 0, row(0.5, 1.5, 2.5, 3.5, -0.5, -1.5, -2.5, -3.5, 8388607.5, 8388606.5, -8388607.5), NONE,
            0.0, 2, 2, 4, -0.0, -2, -2, -4, 8388608, 8388606, -8388608);
        wide(4, 0, row(2147483647 / 2.0, 2147483645 / 2.0), NONE, 1073741824, 1073741822);
    }

    private static void wholeOfInfinite() {
        for (int f = 2; f <= 4; f++) {
            both(f, 0, row(INF, -INF), NONE, INF, -INF);
            narrow(f, 0, row(MAX, 0x1p128, -0x1p128), NONE, INF, INF, -INF);
        }
    }

    private static void wholeThatIs0() {
        both(2, 0, row(0.0, -0.0, 0.5, NARROW_LEAST), NONE, 0.0, -0.0, 0.0, 0.0);
        both(3, 0, row(0.0, -0.0, -0.5, -NARROW_LEAST), NONE, 0.0, -0.0, -0.0, -0.0);
        both(4, 0, row(0.0, -0.0, 0.5, -0.5, 0.25, -0.25), NONE, 0.0, -0.0, 0.0, -0.0, 0.0, -0.0);
    }

    private static void aboveOrBelow0() {
        both(5, 0, row(NARROW_LEAST, -NARROW_LEAST, INF, -INF, 7, -7), NONE, 1, -1, 1, -1, 1, -1);
        wide(5, 0, row(LEAST, MAX, -0x1p-1000), NONE, 1, 1, -1);
    }

    private static void neitherAboveNorBelow0() {
        both(5, 0, row(0.0, -0.0), NONE, 0.0, -0.0);
        narrow(5, 0, row(LEAST, -0x1p-1000), NONE, 0.0, -0.0);
    }

    private static void half() {
        wide(6, 0, row(0.0, -0.0, INF, -INF, LEAST, MAX, 3), NONE, 0.0, -0.0, INF, -INF, 0.0, HALF_MAX, 1.5);
        narrow(6, 0, row(0.0, -0.0, INF, -INF, NARROW_LEAST, -NARROW_LEAST, 0x3p-149, NARROW_MAX), NONE,
            0.0, -0.0, INF, -INF, 0.0, -0.0, 0x1p-148, NARROW_MAX / 2);
    }

    private static void twice() {
        wide(7, 0, row(0.0, -0.0, INF, -INF, LEAST, MAX, 0x1p900), NONE, 0.0, -0.0, INF, -INF, 2 * LEAST, INF, 0x1p901);
        narrow(7, 0, row(0.0, -0.0, INF, -INF, NARROW_LEAST, NARROW_MAX, -0x1p127, 0x1p126), NONE,
            0.0, -0.0, INF, -INF, 0x1p-148, INF, -INF, 0x1p127);
    }

    private static void otherSign() {
        both(8, 0, row(0.0, -0.0, INF, -INF, NARROW_LEAST, -NARROW_MAX), NONE, -0.0, 0.0, -INF, INF, -NARROW_LEAST, NARROW_MAX);
        wide(8, 0, row(MAX, LEAST), NONE, -MAX, -LEAST);
    }

    private static void sumOfInfinites() {
        both(9, 0, row(INF, -INF), row(-INF, INF), BLANK, BLANK);
        both(9, 0, row(INF, -INF, INF, -INF, 1, -1), row(INF, -INF, -1, 1, -INF, INF), INF, -INF, INF, -INF, -INF, INF);
        wide(9, 0, row(MAX, -INF), row(-INF, MAX), -INF, -INF);
        // What is infinite for being rounded is no sum of two that are.
        both(9, 0, row(NARROW_MAX, -NARROW_MAX), row(-NARROW_MAX, NARROW_MAX), 0.0, 0.0);
        narrow(9, 0, row(MAX, 0x1p128), row(-INF, -0x1p128), BLANK, BLANK);
    }

    private static void differenceOfInfinites() {
        both(10, 0, row(INF, -INF), row(INF, -INF), BLANK, BLANK);
        both(10, 0, row(INF, -INF, INF, -INF, 1, -1), row(-INF, INF, 1, -1, -INF, INF), INF, -INF, INF, -INF, INF, -INF);
        wide(10, 0, row(MAX, INF), row(INF, MAX), -INF, INF);
        narrow(10, 0, row(MAX, 0x1p128), row(INF, 0x1p128), BLANK, BLANK);
    }

    private static void zeroTimesInfinite() {
        both(11, 0, row(0.0, -0.0, INF, -INF, 0.0, -0.0, INF, -INF), row(INF, INF, 0.0, 0.0, -INF, -INF, -0.0, -0.0));
        both(11, 0, row(NARROW_LEAST, INF, 0.0), row(INF, -NARROW_LEAST, NARROW_MAX), INF, -INF, 0.0);
        narrow(11, 0, row(LEAST, INF), row(INF, 0x1p-1000));
        wide(11, 0, row(LEAST, INF), row(INF, 0x1p-1000), INF, INF);
    }

    private static void zeroByZero() {
        both(12, 0, row(0.0, 0.0, -0.0, -0.0), row(0.0, -0.0, 0.0, -0.0));
        both(12, 0, row(0.0, -0.0), row(NARROW_LEAST, NARROW_LEAST), 0.0, -0.0);
        narrow(12, 0, row(LEAST), row(LEAST), BLANK);
        wide(12, 0, row(LEAST), row(LEAST), 1);
    }

    private static void infiniteByInfinite() {
        both(12, 0, row(INF, INF, -INF, -INF), row(INF, -INF, INF, -INF));
        both(12, 0, row(INF, NARROW_MAX), row(NARROW_MAX, INF), INF, 0.0);
        narrow(12, 0, row(MAX), row(MAX), BLANK);
        wide(12, 0, row(MAX), row(MAX), 1);
    }

    private static void byZero() {
        both(12, 0, row(1, -1, 1, -1, INF, -INF, INF, -INF), row(0.0, 0.0, -0.0, -0.0, 0.0, 0.0, -0.0, -0.0),
            INF, -INF, -INF, INF, INF, -INF, -INF, INF);
        both(12, 0, row(NARROW_LEAST, -7), row(0.0), INF, -INF);
    }

    private static void leftTowardsZero() {
        both(13, 0, row(7, -7, 7, -7, 5.5, -5.5, 2, 3), row(2, 2, -2, -2, 0.75, 0.75, 3, 2), 1, -1, 1, -1, 0.25, -0.25, 2, 1);
        both(13, 0, row(3, 1, NARROW_MAX), row(4, NARROW_MAX, 0x1p127), 3, 1, NARROW_MAX - 0x1p127);
    }

    private static void leftExactly() {
        wide(13, 0, row(MAX, MAX, 0x1p900, MAX, 0x1.8p900, LEAST), row(3, 10, 1000000007, 0x3p-1000, LEAST, 0x1p-1000),
            MAX % 3, MAX % 10, 0x1p900 % 1000000007, MAX % 0x3p-1000, 0.0, LEAST);
        narrow(13, 0, row(NARROW_MAX, NARROW_MAX, NARROW_MAX, 0x1p127), row(3, 0x3p-149, NARROW_LEAST, 0x5p-149),
            Float.MAX_VALUE % 3f, Float.MAX_VALUE % (3 * Float.MIN_VALUE), 0.0, 0x1p127f % (5 * Float.MIN_VALUE));
        // A quotient rounded, or reckoned as a whole number and taken back, would not leave these.
        wide(13, 0, row(1, 0x1p60 + 0x1p31, 2147483647 * 0x1p40), row(0x1.99999ap-4, 3, 2147483629),
            1 % 0x1.99999ap-4, (0x1p60 + 0x1p31) % 3, (2147483647 * 0x1p40) % 2147483629);
    }

    private static void leftWithTheSignOfX() {
        both(13, 0, row(6, -6, 6, -6, 0.0, -0.0, 0.0, -0.0, -7, 7), row(3, 3, -3, -3, 3, 3, -3, -3, 2, -2),
            0.0, -0.0, 0.0, -0.0, 0.0, -0.0, 0.0, -0.0, -1, 1);
        both(13, 0, row(-1, -NARROW_MAX), row(2, NARROW_MAX), -1, -0.0);
    }

    private static void leftOfNone() {
        both(13, 0, row(1, 0.0, -0.0, INF, -1, NARROW_MAX), row(0.0, 0.0, -0.0, 0.0, -0.0, -0.0));
        narrow(13, 0, row(1), row(LEAST), BLANK);
        wide(13, 0, row(1), row(LEAST), 0.0);
    }

    private static void leftOfInfinite() {
        both(13, 0, row(INF, -INF, INF, -INF, INF), row(3, 3, INF, -INF, NARROW_LEAST));
        narrow(13, 0, row(MAX, -0x1p128), row(3, 3));
    }

    private static void leftByInfiniteAlone() {
        both(13, 0, row(3, -3, 0.0, -0.0, NARROW_MAX, -NARROW_LEAST), row(INF, INF, -INF, INF, -INF, -INF), 3, -3, 0.0, -0.0, NARROW_MAX, -NARROW_LEAST);
        wide(13, 0, row(MAX, LEAST), row(INF, -INF), MAX, LEAST);
        narrow(13, 0, row(5, -0.0), row(MAX), 5, -0.0);
    }

    private static void lesserAndGreater() {
        double[] xs = {1, 2, INF, -INF, NARROW_LEAST, -1, 4};
        double[] ys = {2, 1, NARROW_MAX, -NARROW_MAX, -NARROW_LEAST, 1, 4};
        both(14, 0, xs, ys, 1, 1, NARROW_MAX, -INF, -NARROW_LEAST, -1, 4);
        both(15, 0, xs, ys, 2, 2, INF, -NARROW_MAX, NARROW_LEAST, 1, 4);
    }

    private static void lesserAndGreaterOfZeros() {
        double[] xs = {-0.0, 0.0, -0.0, 0.0};
        double[] ys = {0.0, -0.0, -0.0, 0.0};
        both(14, 0, xs, ys, -0.0, -0.0, -0.0, 0.0);
        both(15, 0, xs, ys, 0.0, 0.0, -0.0, 0.0);
    }

    private static void signOfY() {
        both(16, 0, row(3, 3, -3, -3, 0.0, -0.0, INF, -INF), row(-0.0, 0.0, -0.0, 0.0, -1, 1, -INF, INF), -3, 3, -3, 3, -0.0, 0.0, -INF, INF);
        narrow(16, 0, row(3, MAX), row(-0x1p-1000, -1), -3, -INF);
    }

    private static void soOrBlank() {
        both(17, 0, row(1, 2, 3, -INF, 0.0), row(2, 2, 2, INF, -0.0), 1, BLANK, BLANK, -INF, BLANK);
        both(17, 4, row(1, 2, -0.0, 0.0, INF), row(2, 2, 0.0, -0.0, INF), BLANK, 2, -0.0, 0.0, INF);
        both(17, 5, row(1, BLANK, 2, BLANK), row(BLANK, 1, 2, BLANK), 1);
        both(17, 11, row(1, BLANK, 2, BLANK), row(BLANK, 1, 2, BLANK), BLANK, BLANK, 2);
        both(17, 6, row(1, BLANK, 2, 1), row(BLANK, 1, 2, 2), 1, BLANK, 2);
    }

    private static void yIfXIsBlank() {
        both(18, 0, row(1, BLANK, BLANK, BLANK, -0.0, BLANK), row(2, 2, -INF, -0.0, 5, BLANK), 1, 2, -INF, -0.0, -0.0, BLANK);
        both(18, 0, NONE, row(-0.0), all(-0.0));
        both(18, 0, row(1), NONE, 1);
    }

    private static void middleOne() {
        both(19, 0, row(1, 2, 3, 1, 2, 3), NONE, BLANK, 2, 2, 2, 2);
        both(19, 0, row(3, 2, 1, 3, 2, 1), NONE, BLANK, 2, 2, 2, 2);
        both(19, 0, row(-5, 1, 2, -9, 0.5, -INF, INF), NONE, BLANK, 1, 1, 0.5, -9, 0.5);
        both(19, 0, row(4, 4, 1, 4, 1, 1, 9), NONE, BLANK, 4, 4, 1, 1, 1);
    }

    private static void middleOfBlank() {
        for (int place = 5; place <= 7; place++) {
            double[] xs = all(3);
            xs[place] = BLANK;
            double[] wants = all(3);
            wants[0] = BLANK;
            wants[15] = BLANK;
            for (int near = place - 1; near <= place + 1; near++) {
                wants[near] = BLANK;
            }
            both(19, 0, xs, NONE, wants);
        }
    }

    private static void middleAtTheEnds() {
        double[] wants = all(3);
        wants[0] = BLANK;
        wants[15] = BLANK;
        both(19, 0, all(3), NONE, wants);
    }

    // 1 everywhere, but for the last place.
    private static double[] lastIs(double number) {
        double[] numbers = all(1);
        numbers[15] = number;
        return numbers;
    }

    private static void greatestSoFar() {
        both(20, 0, row(1, 3, 2, -INF, 4, INF, 9), NONE, 1, 3, 3, 3, 4, INF, INF, INF, INF, INF, INF, INF, INF, INF, INF, INF);
        both(20, 0, row(-INF, -3, -4), NONE, -INF, -3, -3, -3, -3, -3, -3, -3, -3, -3, -3, -3, -3, -3, -3, -3);
        both(20, 0, only(15, 7), NONE, only(15, 7));
        both(20, 0, lastIs(2), NONE, lastIs(2));
    }

    private static void blankOnesLeftOut() {
        both(20, 0, row(BLANK, -1, BLANK, BLANK, -2, 5, BLANK), NONE, BLANK, -1, -1, -1, -1, 5, 5, 5, 5, 5, 5, 5, 5, 5, 5, 5);
    }

    private static void blankIfAllAre() {
        both(20, 0, NONE, NONE);
        both(20, 0, only(14, -1), NONE, BLANK, BLANK, BLANK, BLANK, BLANK, BLANK, BLANK, BLANK, BLANK, BLANK, BLANK, BLANK, BLANK, BLANK, -1, -1);
    }

    private static void leastLikewise() {
        both(21, 0, row(5, 3, 4, INF, -2, -INF, 1), NONE, 5, 3, 3, 3, -2, -INF, -INF, -INF, -INF, -INF, -INF, -INF, -INF, -INF, -INF, -INF);
        both(21, 0, row(BLANK, 1, BLANK, BLANK, 2, -5, BLANK), NONE, BLANK, 1, 1, 1, 1, -5, -5, -5, -5, -5, -5, -5, -5, -5, -5, -5);
        both(21, 0, NONE, NONE);
        both(21, 0, only(15, 7), NONE, only(15, 7));
        both(21, 0, lastIs(0.5), NONE, lastIs(0.5));
    }

    private static void sortedFromTheLeastOn() {
        both(22, 0, row(16, 15, 14, 13, 12, 11, 10, 9, 8, 7, 6, 5, 4, 3, 2, 1), NONE, 1, 2, 3, 4, 5, 6, 7, 8, 9, 10, 11, 12, 13, 14, 15, 16);
        both(22, 0, row(2, INF, 2, -INF, -1, 2), NONE, -INF, -1, 2, 2, 2, INF);
        both(22, 0, all(6), NONE, all(6));
        both(22, 0, only(15, 7), NONE, 7);
    }

    private static void sortedWithBlanks() {
        both(22, 0, row(BLANK, 3, BLANK, 1, BLANK, 2), NONE, 1, 2, 3);
        double[] xs = all(4);
        xs[0] = BLANK;
        double[] wants = all(4);
        wants[15] = BLANK;
        both(22, 0, xs, NONE, wants);
        both(22, 0, NONE, NONE);
    }

    private static void minusZeroIsLessThere() {
        both(19, 0, row(0.0, -0.0, -0.0, 0.0, 0.0, -0.0), NONE, BLANK, -0.0, -0.0, 0.0, 0.0);
        both(19, 0, row(-0.0, 0.0, -1, 0.0, -0.0, 1), NONE, BLANK, -0.0, 0.0, -0.0, 0.0);
        both(20, 0, row(-0.0, 0.0, -0.0), NONE, -0.0, 0.0, 0.0, 0.0, 0.0, 0.0, 0.0, 0.0, 0.0, 0.0, 0.0, 0.0, 0.0, 0.0, 0.0, 0.0);
        both(21, 0, row(0.0, -0.0, 0.0), NONE, 0.0, -0.0, -0.0, -0.0, -0.0, -0.0, -0.0, -0.0, -0.0, -0.0, -0.0, -0.0, -0.0, -0.0, -0.0, -0.0);
        both(22, 0, row(0.0, -0.0, 1, 0.0, -0.0, -1), NONE, -1, -0.0, -0.0, 0.0, 0.0, 1);
    }

    private static void lessThanHere() {
        both(23, 0, row(3, 1, 2, 2, BLANK, INF, -INF), NONE, 4, 1, 2, 2, BLANK, 5, 0.0);
        both(23, 0, row(0.0, -0.0, BLANK, -0.0), NONE, 0.0, 0.0, BLANK, 0.0);
        both(23, 0, only(15, -INF), NONE, only(15, 0.0));
        double[] wants = all(0.0);
        wants[15] = 15;
        both(23, 0, lastIs(2), NONE, wants);
    }

    private static void differenceAs10() {
        both(24, 0, row(INF, INF, -INF, -INF, 1, INF, 2), NONE, BLANK, BLANK, -INF, BLANK, INF, INF, -INF);
        wide(24, 0, row(0x1p53, -1, 0x1p53), NONE, BLANK, -0x1p53, 0x1p53);
        narrow(24, 0, row(16777216, -1, 16777218), NONE, BLANK, -16777216, 16777220);
        narrow(24, 0, row(-NARROW_MAX, NARROW_MAX, -NARROW_MAX), NONE, BLANK, INF, -INF);
    }

    private static void differenceFromBlank() {
        both(24, 0, row(1, BLANK, 3, 5, BLANK), NONE, BLANK, BLANK, BLANK, 2);
        both(24, 0, only(14, 3), NONE);
    }

    private static void differenceAtPlace0() {
        double[] wants = all(0.0);
        wants[0] = BLANK;
        both(24, 0, all(7), NONE, wants);
        both(24, 0, only(0, 7), NONE);
        both(24, 0, only(15, 7), NONE);
    }

    private static void countedUpToHere() {
        both(25, 0, row(1, 5, 1, 1), row(2, 2, 2, 1), 1, 1, 2, 2, 2, 2, 2, 2, 2, 2, 2, 2, 2, 2, 2, 2);
        both(25, 4, all(-0.0), row(0.0), 1, 2, 3, 4, 5, 6, 7, 8, 9, 10, 11, 12, 13, 14, 15, 16);
        double[] wants = all(0.0);
        wants[15] = 1;
        both(25, 4, lastIs(2), row(2), wants);
    }

    private static void countedNeverBlank() {
        both(25, 0, NONE, NONE, all(0.0));
        both(25, 4, NONE, NONE, all(0.0));
        both(25, 11, NONE, row(1), all(0.0));
        both(25, 5, NONE, NONE, 1, 2, 3, 4, 5, 6, 7, 8, 9, 10, 11, 12, 13, 14, 15, 16);
    }

    private static void nearestManyAs4() {
        both(26, 0, row(0.5, 1.5, 2.5, -0.5, -1.5, -2.5, 7.5, 4.5), row(1, 1, 1, 1, 1, 1, 3, 3), 0.0, 2, 2, -0.0, -2, -2, 6, 6);
        both(26, 0, row(10, -10, 10, -10, 4, 5), row(3, 3, -3, -3, 8, 8), 9, -9, 9, -9, 0.0, 8);
        both(26, 0, row(INF, -INF, INF, -INF), row(3, 3, -3, -NARROW_LEAST), INF, -INF, INF, -INF);
    }

    private static void nearestManyRounded() {
        // 35000036 / 70 = 500000.514.. is the half 500000.5 among narrow numbers.
        wide(26, 0, row(35000036), row(70), 35000070);
        narrow(26, 0, row(35000036), row(70), 35000000);
        // 5596502 * 3 / 1024 has more digits than a narrow number.
        wide(26, 0, row(16396), row(3 / 1024.0), 5596501 * 3 / 1024.0);
        narrow(26, 0, row(16396), row(3 / 1024.0), 5596502f * 3 / 1024);
        // A quotient beyond all is infinite, and so is what is made of it.
        wide(26, 0, row(5, -5, 5), row(LEAST, LEAST, -0x1p-1000), INF, -INF, 5);
        narrow(26, 0, row(5, -5, 5), row(NARROW_LEAST, NARROW_LEAST, -NARROW_LEAST), INF, -INF, INF);
        // The rounded quotient times y lies half way between MAX and 2^1024.
        wide(26, 0, row(MAX, MAX), row(0x3p900, 0x1p900), INF, MAX);
        narrow(26, 0, row(NARROW_MAX), row(0x1.8p126), INF);
    }

    private static void nearestManyOfNone() {
        both(26, 0, row(1, 0.0, INF, -1, -0.0, NARROW_MAX), row(0.0, 0.0, 0.0, -0.0, -0.0, -0.0));
        narrow(26, 0, row(1, 1), row(LEAST, -0x1p-1000));
    }

    private static void nearestManyOfInfinite() {
        both(26, 0, row(1, 0.0, INF, -1, -0.0, -INF), row(INF, INF, INF, -INF, -INF, -INF));
        narrow(26, 0, row(1, 1), row(MAX, -0x1p128));
    }

    private static void formulasOfX() {
        says("Formula 0", "x.", BoundariesOfFormulas::plainX);
        says("Formula 1", "x without its sign.", BoundariesOfFormulas::withoutSign);
        says("Formula 2", "the greatest whole number not above x", BoundariesOfFormulas::notAbove);
        says("Formula 3", "the least one not below x", BoundariesOfFormulas::notBelow);
        says("Formula 4", "the whole number nearest to x", BoundariesOfFormulas::nearestWhole);
        says("Formula 4", "of two the even one", BoundariesOfFormulas::ofTwoTheEvenOne);
        says("Formulas 2 to 4", "x itself, if it is infinite", BoundariesOfFormulas::wholeOfInfinite);
        says("Formulas 2 to 4", "with x's sign, if it is 0", BoundariesOfFormulas::wholeThatIs0);
        says("Formula 5", "1 or -1, as x is above or below 0", BoundariesOfFormulas::aboveOrBelow0);
        says("Formula 5", "else x.", BoundariesOfFormulas::neitherAboveNorBelow0);
        says("Formula 6", "x / 2.", BoundariesOfFormulas::half);
        says("Formula 7", "2 * x.", BoundariesOfFormulas::twice);
        says("Formula 8", "x with the other sign.", BoundariesOfFormulas::otherSign);
    }

    private static void formulasOfXAndY() {
        says("Formula 9", "x + y; BLANK, if they are infinite with unlike signs.", BoundariesOfFormulas::sumOfInfinites);
        says("Formula 10", "x - y; BLANK, if they are infinite with like signs.", BoundariesOfFormulas::differenceOfInfinites);
        says("Formula 11", "x * y; BLANK, if one is 0 (or -0) and one infinite.", BoundariesOfFormulas::zeroTimesInfinite);
        says("Formula 12", "x / y; BLANK, if both are 0 (or -0)", BoundariesOfFormulas::zeroByZero);
        says("Formula 12", "BLANK, if .. both infinite", BoundariesOfFormulas::infiniteByInfinite);
        says("Formula 12", "by 0 it is infinite.", BoundariesOfFormulas::byZero);
        says("Formula 13", "what x leaves, when y is taken from it as often as it goes, towards 0", BoundariesOfFormulas::leftTowardsZero);
        says("Formula 13", "exactly", BoundariesOfFormulas::leftExactly);
        says("Formula 13", "with x's sign", BoundariesOfFormulas::leftWithTheSignOfX);
        says("Formula 13", "BLANK, if y is 0 (or -0)", BoundariesOfFormulas::leftOfNone);
        says("Formula 13", "BLANK, if .. x infinite", BoundariesOfFormulas::leftOfInfinite);
        says("Formula 13", "x, if y alone is infinite.", BoundariesOfFormulas::leftByInfiniteAlone);
        says("Formulas 14 and 15", "the lesser, 15 the greater of x and y", BoundariesOfFormulas::lesserAndGreater);
        says("Formulas 14 and 15", "(-0 is less than 0 there)", BoundariesOfFormulas::lesserAndGreaterOfZeros);
        says("Formula 16", "x with y's sign.", BoundariesOfFormulas::signOfY);
        says("Formula 17", "x, if comparison c of x and y is so, else BLANK.", BoundariesOfFormulas::soOrBlank);
        says("Formula 18", "x, but y, if x is BLANK.", BoundariesOfFormulas::yIfXIsBlank);
    }

    private static void formulasOverPlaces() {
        says("Formula 19", "the middle one, by size, of x at the places i - 1, i, i + 1", BoundariesOfFormulas::middleOne);
        says("Formula 19", "BLANK, if one of them is BLANK", BoundariesOfFormulas::middleOfBlank);
        says("Formula 19", "BLANK .. at the places 0 and 15.", BoundariesOfFormulas::middleAtTheEnds);
        says("Formula 20", "the greatest of x at the places 0 to i", BoundariesOfFormulas::greatestSoFar);
        says("Formula 20", "BLANK ones left out", BoundariesOfFormulas::blankOnesLeftOut);
        says("Formula 20", "BLANK, if all are.", BoundariesOfFormulas::blankIfAllAre);
        says("Formula 21", "the least, likewise.", BoundariesOfFormulas::leastLikewise);
        says("Formula 22", "the i-th (from 0) of x at all places, sorted from the least on", BoundariesOfFormulas::sortedFromTheLeastOn);
        says("Formula 22", "BLANK ones left out; BLANK beyond them.", BoundariesOfFormulas::sortedWithBlanks);
        says("Formulas 19 to 22", "-0 is less than 0.", BoundariesOfFormulas::minusZeroIsLessThere);
        says("Formula 23", "at how many places x is less than here.", BoundariesOfFormulas::lessThanHere);
        says("Formula 24", "x - x at i - 1, as 10", BoundariesOfFormulas::differenceAs10);
        says("Formula 24", "BLANK, if that one is", BoundariesOfFormulas::differenceFromBlank);
        says("Formula 24", "BLANK .. at place 0.", BoundariesOfFormulas::differenceAtPlace0);
        says("Formula 25", "at how many of the places 0 to i comparison c of x and y is so", BoundariesOfFormulas::countedUpToHere);
        says("Formula 25", "(never BLANK)", BoundariesOfFormulas::countedNeverBlank);
        says("Formula 26", "z * y, z being x / y brought to the nearest whole number as by 4", BoundariesOfFormulas::nearestManyAs4);
        says("Formula 26", "(both rounded)", BoundariesOfFormulas::nearestManyRounded);
        says("Formula 26", "BLANK, if y is 0 (or -0)", BoundariesOfFormulas::nearestManyOfNone);
        says("Formula 26", "BLANK, if y is .. infinite.", BoundariesOfFormulas::nearestManyOfInfinite);
    }

    public static void main(String[] args) {
        formulasOfX();
        formulasOfXAndY();
        formulasOverPlaces();
        end();
    }
}
