/** Promise 4 (place). */
public final class PlaceTest {
    private static final Class<IllegalArgumentException> ILLEGAL = IllegalArgumentException.class;
    private static final Class<UnsupportedOperationException> FULL = UnsupportedOperationException.class;

    public static void main(String[] args) {
        Check check = new Check("PlaceTest");
        inTheFile(check);
        growing(check);
        everyPair(check);
        sharing(check);
        eight(check);
        refusedIsNotKept(check);
        check.end();
    }

    private static void inTheFile(Check check) {
        SignatureSpans x = Check.file(10);
        long[][] wrong = {
            {0, 0}, {3, 3}, {10, 10}, {5, 3}, {-1, 2}, {-2, -1}, {9, 11}, {0, 11}, {10, 11}, {11, 12},
            {0, (1L << 32) + 1}, {1L << 32, (1L << 32) + 1}, {-(1L << 32), 1}, {Long.MIN_VALUE, Long.MAX_VALUE},
            {Long.MIN_VALUE, 1}, {0, Long.MAX_VALUE}, {Long.MAX_VALUE, Long.MIN_VALUE}, {5, Long.MIN_VALUE},
            {Long.MAX_VALUE, 3}, {Long.MAX_VALUE, Long.MAX_VALUE}, {Long.MIN_VALUE, Long.MIN_VALUE}
        };
        for (long[] w : wrong) {
            check.refuses("place(" + w[0] + ", " + w[1] + ")", ILLEGAL, () -> x.place(w[0], w[1]));
        }
        check.answers("the whole file", 0, () -> x.place(0, 10));
        check.refuses("nothing is left", ILLEGAL, () -> x.place(9, 10));
    }

    private static void growing(Check check) {
        SignatureSpans x = new SignatureSpans();
        for (int i = 0; i < 8; i++) {
            int n = i;
            check.refuses("a byte that is not there yet", ILLEGAL, () -> x.place(n, n + 1));
            x.add((byte) 0);
            check.answers("it is there", n, () -> x.place(n, n + 1));
        }
    }

    /** Beside places 2 to 4 and 5 to 6 of a file of 8 bytes: what each byte says. */
    private static void everyPair(Check check) {
        boolean[] taken = {false, false, true, true, false, true, false, false};
        for (int from = -2; from <= 10; from++) {
            for (int to = -2; to <= 10; to++) {
                SignatureSpans x = Check.file(8);
                x.place(5, 6);
                x.place(2, 4);
                boolean right = from < to;
                for (int i = from; i < to; i++) {
                    right = right && i >= 0 && i < 8 && !taken[i];
                }
                long a = from;
                long b = to;
                String call = "place(" + from + ", " + to + ")";
                if (right) {
                    check.answers(call, 2, () -> x.place(a, b));
                } else {
                    check.refuses(call, ILLEGAL, () -> x.place(a, b));
                }
            }
        }
    }

    private static void sharing(Check check) {
        SignatureSpans x = Check.file(20);
        check.answers("place(5, 8)", 0, () -> x.place(5, 8));
        long[][] wrong = {{5, 8}, {4, 6}, {7, 9}, {6, 7}, {4, 9}, {0, 20}, {5, 6}, {7, 8}};
        for (long[] w : wrong) {
            check.refuses("place(" + w[0] + ", " + w[1] + ")", ILLEGAL, () -> x.place(w[0], w[1]));
        }
        check.answers("right before", 1, () -> x.place(4, 5));
        check.answers("right behind", 2, () -> x.place(8, 9));
        check.refuses("over the second", ILLEGAL, () -> x.place(3, 5));
        check.refuses("over the third", ILLEGAL, () -> x.place(8, 12));
        x.sign(0, true, 0);
        check.refuses("over one that a signature has", ILLEGAL, () -> x.place(8, 9));
    }

    private static void eight(Check check) {
        SignatureSpans x = Check.file(20);
        for (int i = 0; i < 8; i++) {
            int from = 2 * i;
            check.answers("place " + i, i, () -> x.place(from, from + 1));
        }
        check.refuses("a ninth one", FULL, () -> x.place(17, 18));
        for (int i = 0; i < 8; i++) {
            int from = 2 * i;
            check.refuses("a ninth one over place " + i, ILLEGAL, () -> x.place(from, from + 2));
        }
        check.refuses("a ninth one without a byte", ILLEGAL, () -> x.place(17, 17));
        check.refuses("a ninth one not in the file", ILLEGAL, () -> x.place(19, 21));
        check.refuses("a ninth one before the file", ILLEGAL, () -> x.place(-1, 0));
        for (int i = 0; i < 8; i++) {
            x.sign(i, true, 0);
            check.refuses("a ninth one after signature " + i, FULL, () -> x.place(17, 18));
        }
    }

    private static void refusedIsNotKept(Check check) {
        SignatureSpans x = Check.file(10);
        check.refuses("place(8, 12)", ILLEGAL, () -> x.place(8, 12));
        check.refuses("no place to sign", IllegalStateException.class, () -> x.sign(0, true, 0));
        check.answers("place(8, 10)", 0, () -> x.place(8, 10));
        check.answers("sign", 0, () -> x.sign(0, true, 0));
        check.answers("the first span ends", 8, () -> x.span(0, 0, 1));
        check.answers("the second one begins", 10, () -> x.span(0, 1, 0));
    }
}
