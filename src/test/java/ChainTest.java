import java.util.NoSuchElementException;

/** Promise 9 (chain). */
public final class ChainTest {
    private static final Class<IllegalArgumentException> ILLEGAL = IllegalArgumentException.class;
    private static final Class<UnsupportedOperationException> FULL = UnsupportedOperationException.class;
    private static final Class<NoSuchElementException> NONE = NoSuchElementException.class;

    public static void main(String[] args) {
        Check check = new Check("ChainTest");
        SignatureSpans x = Check.file(10);
        x.place(0, 1);
        x.place(2, 3);
        x.sign(0, true, 5);
        x.sign(1, true, 5);
        check.refuses("chain(2, 0, 9)", NONE, () -> x.chain(2, 0, 9));
        check.refuses("chain(-1, 9, 0)", NONE, () -> x.chain(-1, 9, 0));
        check.refuses("chain(0, 5, 4)", ILLEGAL, () -> x.chain(0, 5, 4));
        check.refuses("from the latest to the first", ILLEGAL, () -> x.chain(0, Long.MAX_VALUE, Long.MIN_VALUE));
        check.answers("a refused row is none", 7, () -> x.holds(0));
        check.answers("row 1", 1, () -> x.chain(0, 5, 5));
        check.answers("row 2", 2, () -> x.chain(0, Long.MIN_VALUE, Long.MAX_VALUE));
        check.answers("row 3", 3, () -> x.chain(0, -3, 5));
        check.answers("row 1 of the other one", 1, () -> x.chain(1, 6, 9));
        check.answers("row 4", 4, () -> x.chain(0, 5, 9));
        check.refuses("row 5", FULL, () -> x.chain(0, 6, 9));
        check.refuses("row 5, told wrong", ILLEGAL, () -> x.chain(0, 9, 6));
        check.answers("0 holds", 1, () -> x.holds(0));
        check.answers("1 does not", 7, () -> x.holds(1));
        check.answers("row 2 of the other one", 2, () -> x.chain(1, 5, 5));
        check.answers("a good row mends no other", 7, () -> x.holds(1));
        check.end();
    }
}
