import java.util.NoSuchElementException;

/** Promises 10 (change) and 14 (since). */
public final class ChangeTest {
    private static final Class<IllegalArgumentException> ILLEGAL = IllegalArgumentException.class;
    private static final Class<IndexOutOfBoundsException> INDEX = IndexOutOfBoundsException.class;
    private static final Class<UnsupportedOperationException> FULL = UnsupportedOperationException.class;

    public static void main(String[] args) {
        Check check = new Check("ChangeTest");
        changes(check);
        forty(check);
        since(check);
        wrongSince(check);
        everyPair(check);
        behindOthers(check);
        eachSignature(check);
        check.end();
    }

    private static void changes(Check check) {
        SignatureSpans x = Check.file(3);
        int[][] wrong = {
            {-1, 0}, {4, 0}, {0, -1}, {0, 20}, {3, 20}, {Integer.MIN_VALUE, 0}, {0, Integer.MAX_VALUE}
        };
        for (int[] w : wrong) {
            check.refuses("change(" + w[0] + ", " + w[1] + ")", ILLEGAL, () -> x.change(w[0], w[1]));
        }
        check.answers("change(0, 0)", 1, () -> x.change(0, 0));
        check.answers("change(3, 19)", 2, () -> x.change(3, 19));
        x.place(0, 1);
        x.place(1, 2);
        x.sign(0, true, 0);
        check.answers("the first signature is none", 3, () -> x.change(1, 5));
        x.sign(1, true, 0);
        check.answers("the second one is one", 5, () -> x.change(2, 5));
    }

    private static void forty(Check check) {
        SignatureSpans x = Check.file(3);
        x.place(0, 1);
        x.sign(0, true, 0);
        for (int i = 0; i < 40; i++) {
            int n = i;
            check.answers("change " + i, i + 1, () -> x.change(n % 4, n % 20));
        }
        check.refuses("change 40", FULL, () -> x.change(0, 0));
        check.refuses("change 40 of a wrong kind", ILLEGAL, () -> x.change(4, 0));
        check.refuses("change 40 of a wrong field", ILLEGAL, () -> x.change(0, 20));
        check.answers("there are 40", 40, () -> x.since(0, -1, 0));
        for (int i = 0; i < 40; i++) {
            int n = i;
            check.answers("kind of " + i, i % 4, () -> x.since(0, n, 0));
            check.answers("field of " + i, i % 20, () -> x.since(0, n, 1));
        }
        check.refuses("since(0, 40, 0)", INDEX, () -> x.since(0, 40, 0));
    }

    private static void since(Check check) {
        SignatureSpans x = Check.file(9);
        x.place(0, 1);
        x.place(1, 2);
        x.change(3, 3);
        x.sign(4, true, 0);
        check.answers("none yet", 0, () -> x.since(0, -1, 0));
        check.refuses("one from before is not since", INDEX, () -> x.since(0, 0, 0));
        x.change(1, 11);
        x.sign(6, true, 0);
        x.change(2, 12);
        x.allow(0, 1);
        check.answers("three since 0", 3, () -> x.since(0, -1, 0));
        check.answers("one since 1", 1, () -> x.since(1, -1, 0));
        int[][] due = {{1, 11, 0}, {0, 6, 1}, {2, 12, 0}};
        for (int i = 0; i < 3; i++) {
            for (int what = 0; what < 3; what++) {
                int n = i;
                int w = what;
                check.answers("since(0, " + i + ", " + what + ")", due[i][what], () -> x.since(0, n, w));
            }
        }
        check.answers("kind since 1", 2, () -> x.since(1, 0, 0));
        check.answers("field since 1", 12, () -> x.since(1, 0, 1));
        check.answers("1 allows it", 1, () -> x.since(1, 0, 2));
        check.refuses("since(1, 1, 0)", INDEX, () -> x.since(1, 1, 0));
    }

    private static void wrongSince(Check check) {
        SignatureSpans x = Check.signed();
        x.change(0, 1);
        int[] wrong = {-2, 1, 40, Integer.MAX_VALUE, Integer.MIN_VALUE};
        for (int w : wrong) {
            check.refuses("since(0, " + w + ", 0)", INDEX, () -> x.since(0, w, 0));
        }
        int[] wrongWhat = {-1, 3, Integer.MAX_VALUE, Integer.MIN_VALUE};
        for (int w : wrongWhat) {
            check.refuses("since(0, 0, " + w + ")", INDEX, () -> x.since(0, 0, w));
            check.answers("since(0, -1, " + w + ")", 1, () -> x.since(0, -1, w));
        }
        check.refuses("since(1, -1, 0)", NoSuchElementException.class, () -> x.since(1, -1, 0));
        check.refuses("since(-1, 9, 9)", NoSuchElementException.class, () -> x.since(-1, 9, 9));
    }

    private static void everyPair(Check check) {
        for (int k = -2; k <= 5; k++) {
            for (int f = -2; f <= 21; f++) {
                int kind = k;
                int field = f;
                SignatureSpans x = Check.signed();
                String call = "change(" + k + ", " + f + ")";
                if (k >= 0 && k <= 3 && f >= 0 && f <= 19) {
                    check.answers(call, 1, () -> x.change(kind, field));
                    check.answers(call + ": kind", kind, () -> x.since(0, 0, 0));
                    check.answers(call + ": field", field, () -> x.since(0, 0, 1));
                    check.answers(call + ": allowed", 1, () -> x.since(0, 0, 2));
                } else {
                    check.refuses(call, ILLEGAL, () -> x.change(kind, field));
                    check.answers(call + ": none", 0, () -> x.since(0, -1, 0));
                }
            }
        }
    }

    /** Changes from before a signature move none of the edges of those since it. */
    private static void behindOthers(Check check) {
        SignatureSpans x = Check.file(9);
        x.place(0, 1);
        for (int i = 0; i < 30; i++) {
            x.change(3, 3);
        }
        x.sign(4, true, 0);
        for (int i = 0; i < 10; i++) {
            int n = i;
            check.refuses("change " + i + " is not there yet", INDEX, () -> x.since(0, n, 0));
            check.answers("change " + (30 + i), 31 + i, () -> x.change(kind(n), n));
            check.answers("how many since", n + 1, () -> x.since(0, -1, 0));
            check.answers("its kind", kind(n), () -> x.since(0, n, 0));
            check.answers("its field", n, () -> x.since(0, n, 1));
        }
        int[] wrong = {
            -2, -30, 10, 11, 39, 40, Integer.MAX_VALUE, Integer.MAX_VALUE - 29, Integer.MAX_VALUE - 30,
            Integer.MIN_VALUE, Integer.MIN_VALUE + 30
        };
        for (int w : wrong) {
            for (int what = -1; what <= 3; what++) {
                int n = what;
                check.refuses("since(0, " + w + ", " + what + ")", INDEX, () -> x.since(0, w, n));
            }
        }
    }

    private static int kind(int n) {
        return n % 4;
    }

    /** Each signature but the first one is a change of kind 0 of its field, not since itself. */
    private static void eachSignature(Check check) {
        SignatureSpans x = Check.file(16);
        for (int i = 0; i < 8; i++) {
            x.place(2 * i, 2 * i + 1);
        }
        for (int i = 0; i < 8; i++) {
            int s = i;
            x.sign(19 - 2 * s, true, 0);
            check.answers("none since " + s, 0, () -> x.since(s, -1, 0));
            check.refuses("none since " + s + " to look at", INDEX, () -> x.since(s, 0, 0));
        }
        for (int i = 0; i < 8; i++) {
            int s = i;
            check.answers("since " + s, 7 - s, () -> x.since(s, -1, 0));
            for (int k = i + 1; k < 8; k++) {
                int at = k - i - 1;
                int field = 19 - 2 * k;
                check.answers("kind of signature " + k, 0, () -> x.since(s, at, 0));
                check.answers("field of signature " + k, field, () -> x.since(s, at, 1));
                check.answers("signature " + k + " is allowed", 1, () -> x.since(s, at, 2));
            }
        }
        check.answers("so a change is the eighth", 8, () -> x.change(1, 1));
    }
}
