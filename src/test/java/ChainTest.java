import java.util.NoSuchElementException;

/** Promise 9 (chain). */
public final class ChainTest {
    private static final Class<IllegalArgumentException> ILLEGAL = IllegalArgumentException.class;
    private static final Class<UnsupportedOperationException> FULL = UnsupportedOperationException.class;
    private static final Class<NoSuchElementException> NONE = NoSuchElementException.class;

    public static void main(String[] args) {
        Check check = new Check("ChainTest");
        rows(check);
        ends(check);
        fourEach(check);
        check.end();
    }

    private static void rows(Check check) {
        SignatureSpans x = Check.file(10);
        x.place(0, 1);
        x.place(2, 3);
        x.sign(0, true, 5);
        x.sign(1, true, 5);
        check.refuses("chain(2, 0, 9)", NONE, () -> x.chain(2, 0, 9));
        check.refuses("chain(-1, 9, 0)", NONE, () -> x.chain(-1, 9, 0));
        check.refuses("chain(0, 5, 4)", ILLEGAL, () -> x.chain(0, 5, 4));
        check.refuses("from the latest to the first", ILLEGAL, () -> x.chain(0, Long.MAX_VALUE, Long.MIN_VALUE));
        check.answers("a refused row is none", 7, () -> x.holds(0));
        check.answers("row 1", 1, () -> x.chain(0, 5, 5));
        check.answers("row 2", 2, () -> x.chain(0, Long.MIN_VALUE, Long.MAX_VALUE));
        check.answers("row 3", 3, () -> x.chain(0, -3, 5));
        check.answers("row 1 of the other one", 1, () -> x.chain(1, 6, 9));
        check.answers("row 4", 4, () -> x.chain(0, 5, 9));
        check.refuses("row 5", FULL, () -> x.chain(0, 6, 9));
        check.refuses("row 5, told wrong", ILLEGAL, () -> x.chain(0, 9, 6));
        check.answers("0 holds", 1, () -> x.holds(0));
        check.answers("1 does not", 7, () -> x.holds(1));
        check.answers("row 2 of the other one", 2, () -> x.chain(1, 5, 5));
        check.answers("a good row mends no other", 7, () -> x.holds(1));
    }

    /** A row may end where it begins, but not before; any time may stand in it. */
    private static void ends(Check check) {
        long[] times = {Long.MIN_VALUE, -(1L << 32), -1, 0, 1, 1L << 31, 1L << 32, Long.MAX_VALUE};
        for (int i = 0; i < times.length; i++) {
            for (int k = 0; k < times.length; k++) {
                SignatureSpans x = Check.file(2);
                x.place(0, 1);
                x.sign(0, true, 0);
                long from = times[i];
                long to = times[k];
                String call = "chain(0, " + from + ", " + to + ")";
                if (i <= k) {
                    check.answers(call, 1, () -> x.chain(0, from, to));
                } else {
                    check.refuses(call, ILLEGAL, () -> x.chain(0, from, to));
                }
                check.answers(call + ": holds", i <= 3 && 3 <= k ? 1 : 7, () -> x.holds(0));
            }
        }
    }

    /** Four are the most of one signature, not of all. */
    private static void fourEach(Check check) {
        SignatureSpans x = Check.file(16);
        for (int i = 0; i < 8; i++) {
            x.place(2 * i, 2 * i + 1);
            x.sign(i, true, 5);
        }
        for (int row = 1; row <= 4; row++) {
            for (int i = 0; i < 8; i++) {
                int s = i;
                int due = row;
                check.answers("row " + row + " of " + i, due, () -> x.chain(s, 5, 5 + s));
            }
        }
        for (int i = 0; i < 8; i++) {
            int s = i;
            check.refuses("row 5 of " + i, FULL, () -> x.chain(s, 6, 6));
            check.refuses("row 5 of " + i + ", told wrong", ILLEGAL, () -> x.chain(s, 6, 5));
            check.answers("it holds", 1, () -> x.holds(s));
        }
        check.refuses("row 1 of none", NONE, () -> x.chain(8, 5, 5));
    }
}
