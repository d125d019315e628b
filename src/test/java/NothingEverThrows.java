// No call throws or hangs, whatever its arguments and however long the book has been used; what is
// answered beyond the 512th call is free, but that a call answers is not. A book keeps no more changes than that.
public final class NothingEverThrows {
    private static final int CALLS = 20000;
    private static final int BOOKS = 20;
    private static final int[] EDGES = {Integer.MIN_VALUE, Integer.MIN_VALUE + 1, Integer.MIN_VALUE + 16, -1001, -1000, -17, -16, -2, -1, 10, 11, 12, 13, 15,
        16, 23, 24, 26, 27, 31, 32, 33, 64, 900, 901, 65536, Integer.MAX_VALUE - 15, Integer.MAX_VALUE - 1, Integer.MAX_VALUE};

    private static long state = 0;

    private static int next(int bound) {
        state = state * 6364136223846793005L + 1442695040888963407L;
        return (int) Math.floorMod(state >> 33, (long) bound);
    }

    // Mostly what there is, and now and then what there is not.
    private static int any(int usual) {
        return next(8) == 0 ? EDGES[next(EDGES.length)] : next(usual);
    }

    private static int second() {
        return next(2) == 0 ? 16 + next(8) : any(12);
    }

    private static void call(TideBook book) {
        switch (next(20)) {
            case 0: case 1: book.set(any(12), any(16), any(50) - 25, any(1901) - 1000); break;
            case 2: case 3: book.special(any(12), any(16), any(6)); break;
            case 4: book.constant(any(8), any(50) - 25, any(1901) - 1000); break;
            case 5: book.constantSpecial(any(8), any(6)); break;
            case 6: case 7: book.formula(any(12), any(27), any(6), second(), any(12)); break;
            case 8: book.input(any(12)); break;
            case 9: book.width(any(12), next(2) == 0); break;
            case 10: book.back(); break;
            case 11: book.alarm(any(12), any(12), second()); break;
            case 12: book.ring(); break;
            case 13: book.reading(any(12), any(16)); break;
            case 14: book.isBlank(any(12), any(16)); break;
            case 15: book.isMinus(any(12), any(16)); break;
            case 16: book.bits(any(12), any(16)); break;
            case 17: book.compared(any(12), any(12), any(12)); break;
            case 18: book.alarmed(any(10), any(3)); break;
            default: book.told(any(13), any(4)); break;
        }
    }

    private static boolean holdsNaN(TideBook book) {
        for (int column = 0; column < 12; column++) {
            for (int place = 0; place < 16; place++) {
                if (Double.isNaN(book.reading(column, place))) {
                    return true;
                }
            }
        }
        return false;
    }

    public static void main(String[] args) {
        int wrong = 0;
        for (int run = 0; run < BOOKS; run++) {
            TideBook book = new TideBook();
            state = run;
            for (int n = 0; n < CALLS; n++) {
                try {
                    call(book);
                } catch (RuntimeException thrown) {
                    wrong++;
                    System.out.println("book " + run + ", call " + n + " threw " + thrown);
                }
            }
            if (holdsNaN(book)) {
                wrong++;
                System.out.println("book " + run + " holds what is no number");
            }
        }
        TideBook full = new TideBook();
        for (int n = 0; n < 2000; n++) {
            full.set(0, 0, n, 0);
        }
        if (full.told(12, 0) != 512) {
            wrong++;
            System.out.println("a full book keeps " + full.told(12, 0) + " changes, not 512");
        }
        System.out.println(wrong == 0 ? "nothing throws" : wrong + " calls are not as due");
        if (wrong != 0) {
            System.exit(1);
        }
    }
}
