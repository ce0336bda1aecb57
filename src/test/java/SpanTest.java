import java.util.NoSuchElementException;

/** Promises 7 (span) and 8 (tell). */
public final class SpanTest {
    private static final Class<IndexOutOfBoundsException> INDEX = IndexOutOfBoundsException.class;
    private static final Class<NoSuchElementException> NONE = NoSuchElementException.class;

    public static void main(String[] args) {
        Check check = new Check("SpanTest");
        atFirst(check);
        edges(check);
        wrongInputs(check);
        told(check);
        anyLong(check);
        eachSignature(check);
        check.end();
    }

    private static void spans(Check check, String when, SignatureSpans x, int s, long... due) {
        for (int i = 0; i < 2; i++) {
            for (int side = 0; side < 2; side++) {
                int span = i;
                int end = side;
                check.answers(when + ": span(" + s + ", " + i + ", " + side + ")", due[2 * i + side],
                        () -> x.span(s, span, end));
            }
        }
    }

    private static void atFirst(Check check) {
        SignatureSpans x = Check.signed();
        spans(check, "at first", x, 0, 0, 4, 6, 20);
        Check.grow(x, 20, 25);
        spans(check, "grown", x, 0, 0, 4, 6, 20);
        x.place(21, 24);
        x.sign(1, true, 0);
        spans(check, "a second one", x, 1, 0, 21, 24, 25);
        spans(check, "the first one then", x, 0, 0, 4, 6, 20);
    }

    private static void edges(Check check) {
        SignatureSpans x = Check.file(3);
        x.place(0, 1);
        x.place(2, 3);
        x.sign(0, true, 0);
        x.sign(1, true, 0);
        spans(check, "at the end", x, 0, 0, 2, 3, 3);
        spans(check, "at 0", x, 1, 0, 0, 1, 3);
        SignatureSpans y = Check.file(3);
        y.place(0, 3);
        y.sign(0, true, 0);
        y.chain(0, 0, 0);
        spans(check, "the whole", y, 0, 0, 0, 3, 3);
        check.answers("it holds", 1, () -> y.holds(0));
    }

    private static void wrongInputs(Check check) {
        SignatureSpans x = Check.signed();
        int[] wrong = {-1, 2, 3, Integer.MAX_VALUE, Integer.MIN_VALUE};
        for (int w : wrong) {
            check.refuses("span(0, " + w + ", 0)", INDEX, () -> x.span(0, w, 0));
            check.refuses("span(0, 0, " + w + ")", INDEX, () -> x.span(0, 0, w));
            check.refuses("span(0, 1, " + w + ")", INDEX, () -> x.span(0, 1, w));
            check.refuses("span(1, " + w + ", 0)", NONE, () -> x.span(1, w, 0));
            check.refusesAct("tell(0, " + w + ", 0, 0)", INDEX, () -> x.tell(0, w, 0, 0));
            check.refusesAct("tell(-1, " + w + ", 0, 0)", NONE, () -> x.tell(-1, w, 0, 0));
        }
        check.refuses("span(-1, 0, 0)", NONE, () -> x.span(-1, 0, 0));
        check.refuses("span(1, 0, 0)", NONE, () -> x.span(1, 0, 0));
        check.refusesAct("tell(1, 0, 0, 0)", NONE, () -> x.tell(1, 0, 0, 0));
        spans(check, "refused", x, 0, 0, 4, 6, 20);
    }

    private static void told(Check check) {
        SignatureSpans x = Check.signed();
        x.place(10, 12);
        x.sign(1, true, 0);
        x.tell(0, 0, Long.MIN_VALUE, Long.MAX_VALUE);
        spans(check, "the first one told", x, 0, Long.MIN_VALUE, Long.MAX_VALUE, 6, 20);
        x.tell(0, 1, 9, -9);
        spans(check, "both told", x, 0, Long.MIN_VALUE, Long.MAX_VALUE, 9, -9);
        spans(check, "the other signature", x, 1, 0, 10, 12, 20);
        x.tell(0, 0, 0, 4);
        x.tell(0, 1, 6, 20);
        spans(check, "told back", x, 0, 0, 4, 6, 20);
        check.answers("it holds again", 1, () -> x.holds(0));
    }

    /** What is told may be anything, and stays as it is told. */
    private static void anyLong(Check check) {
        long[] values = {Long.MIN_VALUE, -(1L << 32), -1, 0, 1, 20, 21, 1L << 31, 1L << 32, Long.MAX_VALUE};
        for (long from : values) {
            for (long to : values) {
                SignatureSpans x = Check.signed();
                x.tell(0, 0, from, to);
                spans(check, "first told " + from + " " + to, x, 0, from, to, 6, 20);
                x.tell(0, 1, to, from);
                spans(check, "second told " + to + " " + from, x, 0, from, to, to, from);
                check.answers("the end stays", 0, () -> x.behind(0));
            }
        }
    }

    private static void eachSignature(Check check) {
        SignatureSpans x = Check.file(30);
        for (int i = 0; i < 8; i++) {
            x.place(3 * i, 3 * i + 2);
            x.sign(i, true, 0);
        }
        for (int i = 0; i < 8; i++) {
            spans(check, "at first", x, i, 0, 3 * i, 3 * i + 2, 30);
        }
        for (int i = 0; i < 8; i++) {
            x.tell(i, i % 2, i, -i);
        }
        for (int i = 0; i < 8; i++) {
            long[] due = {0, 3 * i, 3 * i + 2, 30};
            due[2 * (i % 2)] = i;
            due[2 * (i % 2) + 1] = -i;
            spans(check, "told", x, i, due);
        }
        check.refuses("span(8, 0, 0)", NONE, () -> x.span(8, 0, 0));
        check.refusesAct("tell(8, 0, 0, 0)", NONE, () -> x.tell(8, 0, 0, 0));
    }
}
