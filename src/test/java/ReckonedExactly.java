import java.math.BigInteger;

// The formulas that round (0, 4, 6, 7, 9 to 13, 24, 26), and set and width, against fractions of whole
// numbers without an end, rounded by the document's words: no float of the machine takes part in it.
public final class ReckonedExactly {
    private static final int BOOKS = 3000;
    private static final int MOST_SHOWN = 20;
    private static final BigInteger TWO = BigInteger.TWO;
    private static final int[] FORMULAS = {0, 4, 6, 7, 9, 10, 11, 12, 13, 24, 26};

    private static int wrong = 0;

    /** A wide or narrow number: (minus) digits * 2^power, or infinite; null stands for BLANK. */
    private static final class Number {
        final boolean minus;
        final boolean infinite;
        final BigInteger digits;
        final int power;

        Number(boolean minus, boolean infinite, BigInteger digits, int power) {
            this.minus = minus;
            this.infinite = infinite;
            this.digits = digits;
            this.power = power;
        }

        boolean isZero() {
            return !infinite && digits.signum() == 0;
        }

        BigInteger signed() {
            return minus ? digits.negate() : digits;
        }

        Number withSign(boolean sign) {
            return new Number(sign, infinite, digits, power);
        }
    }

    private static final Number ENDLESS = new Number(false, true, BigInteger.ZERO, 0);
    private static final Number ZERO = new Number(false, false, BigInteger.ZERO, 0);

    private static int most(boolean narrow) {
        return narrow ? 24 : 53;
    }

    private static int least(boolean narrow) {
        return narrow ? -149 : -1074;
    }

    private static int greatestPower(boolean narrow) {
        return narrow ? 104 : 971;
    }

    // The nearest whole number to over / under, of two the even one; both are not below 0.
    private static BigInteger nearest(BigInteger over, BigInteger under) {
        BigInteger[] parts = over.divideAndRemainder(under);
        int half = parts[1].multiply(TWO).compareTo(under);
        boolean up = half > 0 || half == 0 && parts[0].testBit(0);
        return up ? parts[0].add(BigInteger.ONE) : parts[0];
    }

    // over / under * 2^power, brought to a width.
    private static Number rounded(boolean minus, BigInteger over, BigInteger under, int power, boolean narrow) {
        if (over.signum() == 0) {
            return ZERO.withSign(minus);
        }
        // One too low at most: then the quotient has one digit too many, and the next power is tried.
        int guess = Math.max(least(narrow), over.bitLength() - under.bitLength() + power - most(narrow));
        for (int unit = guess; unit <= guess + 1; unit++) {
            int shift = power - unit;
            BigInteger top = shift > 0 ? over.shiftLeft(shift) : over;
            BigInteger bottom = shift < 0 ? under.shiftLeft(-shift) : under;
            if (top.divide(bottom).bitLength() > most(narrow)) {
                continue;
            }
            BigInteger digits = nearest(top, bottom);
            // Rounding up may have made it a power of 2 with one digit more, which is the same number.
            boolean more = digits.bitLength() > most(narrow);
            int place = more ? unit + 1 : unit;
            if (place > greatestPower(narrow)) {
                return ENDLESS.withSign(minus);
            }
            return new Number(minus, false, more ? digits.shiftRight(1) : digits, place);
        }
        throw new IllegalStateException("no unit for it");
    }

    private static Number brought(Number x, boolean narrow) {
        return x == null || x.infinite ? x : rounded(x.minus, x.digits, BigInteger.ONE, x.power, narrow);
    }

    private static Number sum(Number x, Number y, boolean narrow) {
        if (x.infinite || y.infinite) {
            return x.infinite && y.infinite && x.minus != y.minus ? null : x.infinite ? x : y;
        }
        int power = Math.min(x.power, y.power);
        BigInteger total = x.signed().shiftLeft(x.power - power).add(y.signed().shiftLeft(y.power - power));
        boolean minus = total.signum() < 0 || x.isZero() && y.isZero() && x.minus && y.minus;
        return rounded(minus, total.abs(), BigInteger.ONE, power, narrow);
    }

    private static Number product(Number x, Number y, boolean narrow) {
        boolean minus = x.minus != y.minus;
        if (x.infinite || y.infinite) {
            return x.isZero() || y.isZero() ? null : ENDLESS.withSign(minus);
        }
        return rounded(minus, x.digits.multiply(y.digits), BigInteger.ONE, x.power + y.power, narrow);
    }

    private static Number quotient(Number x, Number y, boolean narrow) {
        boolean minus = x.minus != y.minus;
        if (x.isZero() && y.isZero() || x.infinite && y.infinite) {
            return null;
        }
        if (x.infinite || y.isZero()) {
            return ENDLESS.withSign(minus);
        }
        return y.infinite ? ZERO.withSign(minus) : rounded(minus, x.digits, y.digits, x.power - y.power, narrow);
    }

    private static Number remainder(Number x, Number y, boolean narrow) {
        if (y.isZero() || x.infinite) {
            return null;
        }
        if (y.infinite) {
            return x;
        }
        int power = Math.min(x.power, y.power);
        BigInteger left = x.digits.shiftLeft(x.power - power).mod(y.digits.shiftLeft(y.power - power));
        Number result = rounded(x.minus, left, BigInteger.ONE, power, narrow);
        // "exactly": what is left is a number of that width, and nothing was rounded off.
        if (left.signum() != 0 && !result.digits.shiftLeft(result.power - least(narrow)).equals(left.shiftLeft(power - least(narrow)))) {
            throw new IllegalStateException("the remainder is not exact");
        }
        return result;
    }

    private static Number whole(Number x, boolean narrow) {
        if (x.infinite || x.power >= 0) {
            return x;
        }
        return rounded(x.minus, nearest(x.digits, BigInteger.ONE.shiftLeft(-x.power)), BigInteger.ONE, 0, narrow);
    }

    private static Number multiple(Number x, Number y, boolean narrow) {
        if (y.isZero() || y.infinite) {
            return null;
        }
        Number result = product(whole(quotient(x, y, narrow), narrow), y, narrow);
        return result.isZero() ? result.withSign(x.minus) : result;
    }

    private static Number number(int n) {
        return new Number(n < 0, false, BigInteger.valueOf(n).abs(), 0);
    }

    private static Number reckoned(int f, Number x, Number y, Number before, boolean narrow) {
        boolean ofTwo = f >= 9 && f <= 16 || f == 26;
        if (x == null || ofTwo && y == null || f == 24 && before == null) {
            return null;
        }
        switch (f) {
            case 0: return x;
            case 4: return whole(x, narrow);
            case 6: return quotient(x, number(2), narrow);
            case 7: return product(number(2), x, narrow);
            case 9: return sum(x, y, narrow);
            case 10: return sum(x, y.withSign(!y.minus), narrow);
            case 11: return product(x, y, narrow);
            case 12: return quotient(x, y, narrow);
            case 13: return remainder(x, y, narrow);
            case 24: return sum(x, before.withSign(!before.minus), narrow);
            default: return multiple(x, y, narrow);
        }
    }

    private static long bitsOf(Number x, boolean narrow) {
        if (x == null) {
            return 0L;
        }
        int behind = most(narrow) - 1;
        long sign = x.minus ? -1L << (narrow ? 31 : 63) : 0L;
        if (x.infinite) {
            return sign | (narrow ? 255L : 2047L) << behind;
        }
        if (x.isZero()) {
            return sign;
        }
        // To as many digits as the width has, or as the least power leaves.
        int shift = Math.min(most(narrow) - x.digits.bitLength(), x.power - least(narrow));
        long digits = (shift < 0 ? x.digits.shiftRight(-shift) : x.digits.shiftLeft(shift)).longValueExact();
        boolean normal = digits >> behind == 1L;
        long exponent = normal ? x.power - shift - least(narrow) + 1 : 0L;
        return sign | exponent << behind | digits & (1L << behind) - 1L;
    }

    /** The arguments of the calls: the same ones in every run of this test. */
    private static final class Source {
        private long seed;

        Source(long seed) {
            this.seed = seed * 0x9E3779B97F4A7C15L + 12345L;
        }

        int below(int bound) {
            seed = seed * 6364136223846793005L + 1442695040888963407L;
            return (int) ((seed >>> 33) % bound);
        }

        int m() {
            int m;
            switch (below(5)) {
                case 0: m = below(12); break;
                case 1: m = (1 << 24) - 5 + below(11); break;
                case 2: m = (1 << below(31)) - below(2); break;
                case 3: m = Integer.MAX_VALUE - below(300); break;
                default: m = below(Integer.MAX_VALUE); break;
            }
            return below(2) == 0 ? m : -m;
        }

        int e(int style) {
            switch (style) {
                case 0: return below(9) - 4;
                case 1: return below(40) - 170;
                case 2: return 90 + below(10);
                case 3: return below(31) - 1000;
                case 4: return 870 + below(31);
                case 5: return below(80) - 40;
                case 6: return below(1901) - 1000;
                default: return (below(2) == 0 ? -500 : 460) - below(60);
            }
        }
    }

    private static Number put(TideBook book, int column, int place, Source source, int style) {
        if (source.below(12) == 0) {
            int what = source.below(6);
            book.special(column, place, what);
            return special(what);
        }
        int m = source.m();
        int e = source.e(style);
        book.set(column, place, m, e);
        return rounded(m < 0, BigInteger.valueOf(m).abs(), BigInteger.ONE, e, false);
    }

    private static Number special(int what) {
        switch (what) {
            case 0: return null;
            case 1: return ENDLESS;
            case 2: return ENDLESS.withSign(true);
            case 3: return ZERO.withSign(true);
            case 4: return new Number(false, false, BigInteger.ONE.shiftLeft(53).subtract(BigInteger.ONE), 971);
            default: return new Number(false, false, BigInteger.ONE, -1074);
        }
    }

    private static void due(String what, TideBook book, int column, int place, Number want, boolean narrow) {
        long got = book.bits(column, place);
        boolean blank = book.isBlank(column, place);
        if (got != bitsOf(want, narrow) || blank != (want == null)) {
            wrong++;
            if (wrong <= MOST_SHOWN) {
                System.out.println(what + ", place " + place + ": " + (blank ? "BLANK" : Long.toHexString(got)) + ", due is "
                    + (want == null ? "BLANK" : Long.toHexString(bitsOf(want, narrow))));
            }
        }
    }

    // Products of inputs have all 53 digits, which set alone cannot give.
    private static Number[] longer(TideBook book, int column, Number[] xs, Number[] ys) {
        book.formula(column, 11, 0, 1, 0);
        Number[] products = new Number[16];
        for (int i = 0; i < 16; i++) {
            products[i] = reckoned(11, xs[i], ys[i], null, false);
        }
        return products;
    }

    // One book for each width, so that none is used for more than 512 calls.
    private static void run(int run, boolean narrow) {
        Source source = new Source(run);
        TideBook book = new TideBook();
        Number[] xs = new Number[16];
        Number[] ys = new Number[16];
        int styleX = source.below(8);
        int styleY = source.below(3) == 0 ? source.below(8) : styleX;
        for (int i = 0; i < 16; i++) {
            xs[i] = put(book, 0, i, source, styleX);
            ys[i] = put(book, 1, i, source, styleY);
        }
        Number[] products = longer(book, 2, xs, ys);
        boolean fromProducts = source.below(2) == 0;
        Number[] firsts = fromProducts ? products : xs;
        book.width(3, narrow);
        for (int f : FORMULAS) {
            book.formula(3, f, fromProducts ? 2 : 0, 1, 0);
            dueFormula("book " + run + ", formula " + f + (narrow ? ", narrow" : ", wide"), book, f, firsts, ys, narrow);
        }
        book.width(0, narrow);
        for (int i = 0; i < 16; i++) {
            due("book " + run + ", width", book, 0, i, brought(xs[i], narrow), narrow);
        }
    }

    private static void dueFormula(String what, TideBook book, int f, Number[] firsts, Number[] ys, boolean narrow) {
        for (int i = 0; i < 16; i++) {
            Number x = brought(firsts[i], narrow);
            Number y = brought(ys[i], narrow);
            Number before = i == 0 ? null : brought(firsts[i - 1], narrow);
            due(what, book, 3, i, reckoned(f, x, y, before, narrow), narrow);
        }
    }

    public static void main(String[] args) {
        for (int run = 0; run < BOOKS; run++) {
            run(run, false);
            run(run, true);
        }
        System.out.println(wrong == 0 ? "all is reckoned exactly" : wrong + " readings are not as due");
        if (wrong != 0) {
            System.exit(1);
        }
    }
}
