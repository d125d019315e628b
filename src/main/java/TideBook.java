/**
 * A book of readings: input columns, columns made of others by formulas, constants, changes that
 * can be taken back, and alarms. The promises that it keeps stand in ../shared/DOC.md.
 */
public final class TideBook {
    private static final int COLUMNS = 12;
    private static final int PLACES = 16;
    private static final int ALL_PLACES = 0xFFFF;
    private static final int CONSTANTS = 8;
    private static final int FIRST_CONSTANT = 16;
    // The constants are held as one more row, so that a change of one is kept like any other.
    private static final int CONSTANT_ROW = 12;
    // The column number by which told() means the book itself.
    private static final int BOOK = 12;
    private static final int COMPARISONS = 12;
    private static final int NEGATED = 6;
    private static final int NO_FORMULA = -1;
    private static final int LAST_FORMULA = 26;
    private static final int LEAST_E = -1000;
    private static final int GREATEST_E = 900;
    private static final int BLANK = 0;
    private static final int LAST_SPECIAL = 5;
    private static final int MOST_ALARMS = 10;
    // An object is used for 512 calls, so no more changes than that need ever be kept.
    private static final int MOST_CHANGES = 512;

    private final Row[] rows;
    private final Alarm[] alarms;
    private final Reckoner reckoner;
    private Change latest;
    private int changes;
    private int alarmCount;
    private int rings;
    // One bit for each row that has changed since the formulas were last reckoned.
    private int stale;

    public TideBook() {
        rows = new Row[COLUMNS + 1];
        for (int i = 0; i <= COLUMNS; i++) {
            rows[i] = new Row();
        }
        alarms = new Alarm[MOST_ALARMS];
        reckoner = new Reckoner();
        latest = null;
        changes = 0;
        alarmCount = 0;
        rings = 0;
        stale = 0;
    }

    public int set(int column, int place, int m, int e) {
        if (!takesReading(column, place) || !isExponent(e)) {
            return 0;
        }
        changed(column).put(place, reckoner.scale.times((double) m, e));
        return 1;
    }

    public int special(int column, int place, int what) {
        if (!takesReading(column, place) || !isSpecial(what)) {
            return 0;
        }
        putSpecial(changed(column), place, what);
        return 1;
    }

    public int constant(int k, int m, int e) {
        if (!isConstant(k) || !isExponent(e) || isFull()) {
            return 0;
        }
        changed(CONSTANT_ROW).put(k, reckoner.scale.times((double) m, e));
        return 1;
    }

    public int constantSpecial(int k, int what) {
        if (!isConstant(k) || !isSpecial(what) || isFull()) {
            return 0;
        }
        putSpecial(changed(CONSTANT_ROW), k, what);
        return 1;
    }

    public int formula(int column, int f, int a, int b, int c) {
        if (!isColumn(column) || f < 0 || f > LAST_FORMULA || !isComparison(c) || isFull()) {
            return 0;
        }
        if (a < 0 || a >= column || b < 0 || b >= column && !isConstant(b - FIRST_CONSTANT)) {
            return 0;
        }
        Row row = changed(column);
        row.f = f;
        row.a = a;
        row.b = b;
        row.c = c;
        return 1;
    }

    public int input(int column) {
        if (!isColumn(column) || !rows[column].hasFormula() || isFull()) {
            return 0;
        }
        settle();
        changed(column).f = NO_FORMULA;
        return 1;
    }

    public int width(int column, boolean narrow) {
        if (!isColumn(column) || rows[column].narrow == narrow || isFull()) {
            return 0;
        }
        changed(column).bringTo(narrow);
        return 1;
    }

    public int back() {
        Change change = latest;
        if (change == null) {
            return -1;
        }
        rows[change.row] = change.old;
        stale |= 1 << change.row;
        latest = change.before;
        changes--;
        return changes;
    }

    public int alarm(int column, int c, int b) {
        if (!isColumn(column) || !isComparison(c) || alarmCount >= MOST_ALARMS) {
            return -1;
        }
        if (!isColumn(b) && !isConstant(b - FIRST_CONSTANT)) {
            return -1;
        }
        alarms[alarmCount] = new Alarm(column, c, b);
        alarmCount++;
        return alarmCount - 1;
    }

    public int ring() {
        settle();
        rings++;
        int ringing = 0;
        for (int i = 0; i < alarmCount; i++) {
            Alarm one = alarms[i];
            if (one != null) {
                ringing += one.look(placesWhere(one.column, one.c, one.b));
            }
        }
        return ringing;
    }

    public double reading(int column, int place) {
        settle();
        return isNumber(column, place) ? rows[column].numbers[place] : 0.0;
    }

    public boolean isBlank(int column, int place) {
        settle();
        return isColumn(column) && isPlace(place) && rows[column].blankAt(place);
    }

    public boolean isMinus(int column, int place) {
        settle();
        return isNumber(column, place) && hasMinus(rows[column].numbers[place]);
    }

    public long bits(int column, int place) {
        settle();
        if (!isNumber(column, place)) {
            return 0L;
        }
        Row row = rows[column];
        return reckoner.scale.bitsOf(row.numbers[place], row.narrow);
    }

    public int compared(int column, int c, int other) {
        if (!isColumn(column) || !isComparison(c) || !isColumn(other)) {
            return -1;
        }
        settle();
        return Integer.bitCount(placesWhere(column, c, other));
    }

    public int alarmed(int alarm, int what) {
        if (alarm < 0 || alarm >= alarmCount) {
            return -1;
        }
        Alarm one = alarms[alarm];
        return one == null ? -1 : one.answer(what);
    }

    public int told(int column, int what) {
        if (column == BOOK) {
            return toldOfBook(what);
        }
        settle();
        return isColumn(column) ? toldOfColumn(rows[column], what) : -1;
    }

    private int toldOfBook(int what) {
        switch (what) {
            case 0: return changes;
            case 1: return alarmCount;
            case 2: return rings;
            default: return -1;
        }
    }

    private static int toldOfColumn(Row row, int what) {
        switch (what) {
            case 0: return row.hasFormula() ? 1 : 0;
            case 1: return row.narrow ? 1 : 0;
            case 2: return Integer.bitCount(row.blanks);
            case 3: return row.f;
            default: return -1;
        }
    }

    private static boolean isColumn(int column) {
        return column >= 0 && column < COLUMNS;
    }

    private static boolean isPlace(int place) {
        return place >= 0 && place < PLACES;
    }

    private static boolean isConstant(int k) {
        return k >= 0 && k < CONSTANTS;
    }

    private static boolean isComparison(int c) {
        return c >= 0 && c < COMPARISONS;
    }

    private static boolean isExponent(int e) {
        return e >= LEAST_E && e <= GREATEST_E;
    }

    private static boolean isSpecial(int what) {
        return what >= BLANK && what <= LAST_SPECIAL;
    }

    private boolean isFull() {
        return changes >= MOST_CHANGES;
    }

    private boolean takesReading(int column, int place) {
        return isColumn(column) && isPlace(place) && !rows[column].hasFormula() && !isFull();
    }

    private boolean isNumber(int column, int place) {
        return isColumn(column) && isPlace(place) && !rows[column].blankAt(place);
    }

    /** Puts a copy in the row's stead, to be changed by the caller; the old row waits for back(). */
    private Row changed(int row) {
        Row old = rows[row];
        latest = new Change(row, old, latest);
        changes++;
        Row fresh = old.copy();
        rows[row] = fresh;
        stale |= 1 << row;
        return fresh;
    }

    private static void putSpecial(Row row, int place, int what) {
        double endless = 1.7976931348623157E308 * 2.0;
        switch (what) {
            case 1: row.put(place, endless); break;
            case 2: row.put(place, -endless); break;
            case 3: row.put(place, -0.0); break;
            case 4: row.put(place, row.narrow ? 3.4028234663852886E38 : 1.7976931348623157E308); break;
            case 5: row.put(place, row.narrow ? 1.401298464324817E-45 : 4.9E-324); break;
            default: row.clear(place); break;
        }
    }

    /** Reckons anew what may have changed; a formula's columns are lower, so one pass is enough. */
    private void settle() {
        if (stale == 0) {
            return;
        }
        for (int i = 0; i < COLUMNS; i++) {
            Row row = rows[i];
            if (row.hasFormula() && row.isTouched(stale, i)) {
                reckoner.reckon(row, rows);
                stale |= 1 << i;
            }
        }
        stale = 0;
    }

    /** One bit for each place where c of the column's reading and b's is so; settle() goes before. */
    private int placesWhere(int column, int c, int b) {
        boolean fixed = b >= FIRST_CONSTANT;
        Row own = rows[column];
        Row other = fixed ? rows[CONSTANT_ROW] : rows[b];
        int places = 0;
        for (int i = 0; i < PLACES; i++) {
            if (isSo(c, own, i, other, fixed ? b - FIRST_CONSTANT : i)) {
                places |= 1 << i;
            }
        }
        return places;
    }

    private static boolean isSo(int c, Row p, int i, Row q, int j) {
        boolean negated = c >= NEGATED;
        int plain = negated ? c - NEGATED : c;
        boolean so;
        if (p.blankAt(i) || q.blankAt(j)) {
            so = plain == 5;
        } else {
            so = isSoOfNumbers(plain, p.numbers[i], q.numbers[j]);
        }
        return so != negated;
    }

    private static boolean isSoOfNumbers(int c, double x, double y) {
        switch (c) {
            case 0: return x < y;
            case 1: return x <= y;
            case 2: return x > y;
            case 3: return x >= y;
            case 4: return x == y;
            default: return x != y;
        }
    }

    // Only what -0 makes of a division tells it from 0.
    private static boolean hasMinus(double x) {
        return x < 0.0 || x == 0.0 && 1.0 / x < 0.0;
    }

    private static boolean isInfinite(double x) {
        return x > 1.7976931348623157E308 || x < -1.7976931348623157E308;
    }

    /** A column's, or all constants', readings at their places, with the column's formula. */
    private static final class Row {
        final double[] numbers;
        int blanks;
        boolean narrow;
        int f;
        int a;
        int b;
        int c;

        Row() {
            numbers = new double[PLACES];
            blanks = ALL_PLACES;
            narrow = false;
            f = NO_FORMULA;
            a = 0;
            b = 0;
            c = 0;
        }

        Row copy() {
            Row other = new Row();
            System.arraycopy(numbers, 0, other.numbers, 0, PLACES);
            other.blanks = blanks;
            other.narrow = narrow;
            other.f = f;
            other.a = a;
            other.b = b;
            other.c = c;
            return other;
        }

        boolean hasFormula() {
            return f != NO_FORMULA;
        }

        boolean isTouched(int stale, int own) {
            int second = b >= FIRST_CONSTANT ? CONSTANT_ROW : b;
            return (stale & (1 << own | 1 << a | 1 << second)) != 0;
        }

        boolean blankAt(int place) {
            return (blanks >> place & 1) == 1;
        }

        void put(int place, double number) {
            numbers[place] = narrow ? (double) (float) number : number;
            blanks &= ~(1 << place);
        }

        void clear(int place) {
            numbers[place] = 0.0;
            blanks |= 1 << place;
        }

        void bringTo(boolean toNarrow) {
            narrow = toNarrow;
            for (int i = 0; i < PLACES; i++) {
                if (!blankAt(i)) {
                    put(i, numbers[i]);
                }
            }
        }

        void takeAll(Row source) {
            for (int i = 0; i < PLACES; i++) {
                takeOne(i, source, i);
            }
        }

        void takeOne(int place, Row source, int from) {
            if (source.blankAt(from)) {
                clear(place);
            } else {
                put(place, source.numbers[from]);
            }
        }
    }

    /** A change that can be taken back: the row that stood there before it. */
    private static final class Change {
        final int row;
        final Row old;
        final Change before;

        Change(int row, Row old, Change before) {
            this.row = row;
            this.old = old;
            this.before = before;
        }
    }

    /** An alarm, with one bit for each place where it held and rang at the latest ring. */
    private static final class Alarm {
        final int column;
        final int c;
        final int b;
        int held;
        int rang;
        boolean lookedAt;

        Alarm(int column, int c, int b) {
            this.column = column;
            this.c = c;
            this.b = b;
            held = 0;
            rang = 0;
            lookedAt = false;
        }

        int look(int holds) {
            rang = holds & ~held;
            held = holds;
            lookedAt = true;
            return Integer.bitCount(rang);
        }

        int answer(int what) {
            if (!lookedAt) {
                return -1;
            }
            switch (what) {
                case 0: return Integer.bitCount(held);
                case 1: return Integer.bitCount(rang);
                case 2: return firstRang();
                default: return -1;
            }
        }

        private int firstRang() {
            for (int i = 0; i < PLACES; i++) {
                if ((rang >> i & 1) == 1) {
                    return i;
                }
            }
            return -1;
        }
    }

    /** What powers of 2 do to numbers: all of it is exact. */
    private static final class Scale {
        private static final int STEPS = 10;
        private static final int WIDE_DIGITS = 52;
        private static final int WIDE_LEAST = -1074;
        private static final int NARROW_DIGITS = 23;
        private static final int NARROW_LEAST = -149;

        // 2 to the power of 1, 2, 4, .. 512, and 1 divided by these.
        private final double[] up;
        private final double[] down;

        Scale() {
            up = new double[STEPS];
            down = new double[STEPS];
            up[0] = 2.0;
            down[0] = 0.5;
            for (int i = 1; i < STEPS; i++) {
                up[i] = up[i - 1] * up[i - 1];
                down[i] = down[i - 1] * down[i - 1];
            }
        }

        /** number * 2^n, n being -1074 .. 1074, where that is a wide number. */
        double times(double number, int n) {
            double[] factors = n < 0 ? down : up;
            int left = n < 0 ? -n : n;
            double result = number;
            for (int i = STEPS - 1; i >= 0; i--) {
                // 2^512 may go twice into what is left.
                for (; left >= 1 << i; left -= 1 << i) {
                    result *= factors[i];
                }
            }
            return result;
        }

        /** The n by which size (finite, above 0, of that width) is a whole number times 2^n. */
        int unit(double size, boolean narrow) {
            int digits = narrow ? NARROW_DIGITS : WIDE_DIGITS;
            int least = narrow ? NARROW_LEAST : WIDE_LEAST;
            double rest = size;
            int exponent = 0;
            // The steps reach down to 2^-1023 alone, and the least numbers are below that.
            if (rest < down[STEPS - 1]) {
                rest *= up[STEPS - 1];
                exponent = -(1 << STEPS - 1);
            }
            for (int i = STEPS - 1; i >= 0; i--) {
                if (rest >= up[i]) {
                    rest *= down[i];
                    exponent += 1 << i;
                } else if (rest * up[i] < 2.0) {
                    rest *= up[i];
                    exponent -= 1 << i;
                }
            }
            return exponent - digits < least ? least : exponent - digits;
        }

        long bitsOf(double number, boolean narrow) {
            int digits = narrow ? NARROW_DIGITS : WIDE_DIGITS;
            int least = narrow ? NARROW_LEAST : WIDE_LEAST;
            boolean minus = hasMinus(number);
            double size = minus ? -number : number;
            long sign = minus ? -1L << (narrow ? 31 : 63) : 0L;
            if (size == 0.0) {
                return sign;
            }
            if (isInfinite(size)) {
                return sign + ((narrow ? 0xFFL : 0x7FFL) << digits);
            }
            int n = unit(size, narrow);
            // The leading digit of a normal number, not masked off, adds the 1 that the exponent lacks.
            return sign + ((long) (n - least) << digits) + (long) times(size, -n);
        }
    }

    /** What the formulas make of two rows; its own rows hold these as brought to the width. */
    private static final class Reckoner {
        final Scale scale;
        private final Row x;
        private final Row y;
        private final double[] sorted;
        private int sortedCount;

        Reckoner() {
            scale = new Scale();
            x = new Row();
            y = new Row();
            sorted = new double[PLACES];
            sortedCount = 0;
        }

        void reckon(Row out, Row[] rows) {
            x.narrow = out.narrow;
            y.narrow = out.narrow;
            x.takeAll(rows[out.a]);
            takeSecond(out.b, rows);
            if (out.f == 22) {
                sort();
            }
            for (int i = 0; i < PLACES; i++) {
                if (leavesBlank(out, i)) {
                    out.clear(i);
                } else {
                    out.put(i, numberAt(out, i));
                }
            }
        }

        private void takeSecond(int b, Row[] rows) {
            if (b < FIRST_CONSTANT) {
                y.takeAll(rows[b]);
                return;
            }
            for (int i = 0; i < PLACES; i++) {
                y.takeOne(i, rows[CONSTANT_ROW], b - FIRST_CONSTANT);
            }
        }

        private static boolean isOfTwo(int f) {
            return f >= 9 && f <= 16 || f == 26;
        }

        /** Asked ahead of numberAt, which then never meets what no number is the answer to. */
        private boolean leavesBlank(Row out, int i) {
            if (isOfTwo(out.f)) {
                return x.blankAt(i) || y.blankAt(i) || isUndefined(out.f, x.numbers[i], y.numbers[i]);
            }
            switch (out.f) {
                case 17: return x.blankAt(i) || !isSo(out.c, x, i, y, i);
                case 18: return x.blankAt(i) && y.blankAt(i);
                case 19: return !hasBothNeighbours(i);
                case 20:
                case 21: return x.blankAt(i) && (i == 0 || out.blankAt(i - 1));
                case 22: return i >= sortedCount;
                case 24: return !hasDifference(i);
                case 25: return false;
                default: return x.blankAt(i);
            }
        }

        private boolean hasBothNeighbours(int i) {
            return i > 0 && i < PLACES - 1 && !x.blankAt(i - 1) && !x.blankAt(i) && !x.blankAt(i + 1);
        }

        private boolean hasDifference(int i) {
            return i > 0 && !x.blankAt(i - 1) && !x.blankAt(i)
                && !isUndefined(10, x.numbers[i], x.numbers[i - 1]);
        }

        private static boolean isUndefined(int f, double p, double q) {
            boolean endless = isInfinite(p) && isInfinite(q);
            switch (f) {
                case 9: return endless && p != q;
                case 10: return endless && p == q;
                case 11: return p == 0.0 && isInfinite(q) || isInfinite(p) && q == 0.0;
                case 12: return endless || p == 0.0 && q == 0.0;
                case 13: return q == 0.0 || isInfinite(p);
                case 26: return q == 0.0 || isInfinite(q);
                default: return false;
            }
        }

        private double numberAt(Row out, int i) {
            if (out.f <= 8) {
                return ofOne(out.f, x.numbers[i]);
            }
            if (isOfTwo(out.f)) {
                return ofTwo(out.f, x.numbers[i], y.numbers[i]);
            }
            switch (out.f) {
                case 18: return x.blankAt(i) ? y.numbers[i] : x.numbers[i];
                case 19: return middleAt(i);
                case 20:
                case 21: return farthestAt(out, i);
                case 22: return i < sortedCount ? sorted[i] : 0.0;
                case 23: return (double) lesserPlaces(x.numbers[i]);
                case 24: return i == 0 ? 0.0 : sum(x.numbers[i], -x.numbers[i - 1]);
                case 25: return (i == 0 ? 0.0 : out.numbers[i - 1]) + (isSo(out.c, x, i, y, i) ? 1.0 : 0.0);
                default: return x.numbers[i];
            }
        }

        private double ofOne(int f, double p) {
            switch (f) {
                case 1: return hasMinus(p) ? -p : p;
                case 2: return floor(p);
                case 3: return -floor(-p);
                case 4: return nearest(p);
                case 5: return p > 0.0 ? 1.0 : p < 0.0 ? -1.0 : p;
                case 6: return quotient(p, 2.0);
                case 7: return product(p, 2.0);
                case 8: return -p;
                default: return p;
            }
        }

        private double ofTwo(int f, double p, double q) {
            switch (f) {
                case 9: return sum(p, q);
                case 10: return sum(p, -q);
                case 11: return product(p, q);
                case 12: return quotient(p, q);
                case 13: return remainder(p, q);
                case 14: return comesBefore(q, p) ? q : p;
                case 15: return comesBefore(q, p) ? p : q;
                case 16: return hasMinus(p) == hasMinus(q) ? p : -p;
                default: return product(nearest(quotient(p, q)), q);
            }
        }

        // Narrow numbers are reckoned as floats, so that each step is rounded once, to the width.
        private double sum(double p, double q) {
            return x.narrow ? (double) ((float) p + (float) q) : p + q;
        }

        private double product(double p, double q) {
            return x.narrow ? (double) ((float) p * (float) q) : p * q;
        }

        private double quotient(double p, double q) {
            return x.narrow ? (double) ((float) p / (float) q) : p / q;
        }

        // From 2^52 on every number is whole, and a long need not hold it.
        private static boolean isSurelyWhole(double p) {
            return p >= 4503599627370496.0 || p <= -4503599627370496.0 || p == 0.0;
        }

        private static double floor(double p) {
            if (isSurelyWhole(p)) {
                return p;
            }
            double whole = (double) (long) p;
            return whole > p ? whole - 1.0 : whole;
        }

        private static double nearest(double p) {
            if (isSurelyWhole(p)) {
                return p;
            }
            double size = p < 0.0 ? -p : p;
            long whole = (long) size;
            double beyond = size - (double) whole;
            if (beyond > 0.5 || beyond == 0.5 && (whole & 1L) == 1L) {
                whole++;
            }
            return p < 0.0 ? -(double) whole : (double) whole;
        }

        /** Long division of the digits, ten at a time, so that no step leaves a long's room. */
        private double remainder(double p, double q) {
            double size = hasMinus(p) ? -p : p;
            double step = q < 0.0 ? -q : q;
            if (size < step || size == 0.0) {
                return p;
            }
            int n = scale.unit(size, false);
            int stepN = scale.unit(step, false);
            long divisor = (long) scale.times(step, -stepN);
            if (divisor <= 0L) {
                return p;
            }
            long rest = (long) scale.times(size, -n) % divisor;
            for (int left = n - stepN; left > 0 && rest != 0L; left -= 10) {
                rest = (rest << (left < 10 ? left : 10)) % divisor;
            }
            double result = scale.times((double) rest, stepN);
            return hasMinus(p) ? -result : result;
        }

        // The order in which -0 is less than 0.
        private static boolean comesBefore(double p, double q) {
            return p < q || p == q && hasMinus(p) && !hasMinus(q);
        }

        private double middleAt(int i) {
            if (i <= 0 || i >= PLACES - 1) {
                return 0.0;
            }
            boolean swap = comesBefore(x.numbers[i], x.numbers[i - 1]);
            double low = swap ? x.numbers[i] : x.numbers[i - 1];
            double high = swap ? x.numbers[i - 1] : x.numbers[i];
            double third = x.numbers[i + 1];
            if (comesBefore(third, low)) {
                return low;
            }
            return comesBefore(high, third) ? high : third;
        }

        /** The greatest (20) or least (21) so far, from what stands at the place before. */
        private double farthestAt(Row out, int i) {
            if (i == 0 || out.blankAt(i - 1)) {
                return x.numbers[i];
            }
            double sofar = out.numbers[i - 1];
            if (x.blankAt(i)) {
                return sofar;
            }
            double here = x.numbers[i];
            boolean better = out.f == 20 ? comesBefore(sofar, here) : comesBefore(here, sofar);
            return better ? here : sofar;
        }

        private void sort() {
            sortedCount = 0;
            for (int i = 0; i < PLACES; i++) {
                if (!x.blankAt(i)) {
                    insert(x.numbers[i]);
                }
            }
        }

        private void insert(double number) {
            int at = sortedCount;
            for (; at > 0 && comesBefore(number, sorted[at - 1]); at--) {
                sorted[at] = sorted[at - 1];
            }
            sorted[at] = number;
            sortedCount++;
        }

        private int lesserPlaces(double number) {
            int count = 0;
            for (int i = 0; i < PLACES; i++) {
                if (!x.blankAt(i) && x.numbers[i] < number) {
                    count++;
                }
            }
            return count;
        }
    }
}
