/** Promise 5 (sign). */
public final class SignTest {
    private static final Class<IllegalArgumentException> ILLEGAL = IllegalArgumentException.class;
    private static final Class<IllegalStateException> STATE = IllegalStateException.class;
    private static final Class<UnsupportedOperationException> FULL = UnsupportedOperationException.class;

    public static void main(String[] args) {
        Check check = new Check("SignTest");
        wrongInputs(check);
        latestPlace(check);
        oneSignatureAField(check);
        eight(check);
        noRoomForItsChange(check);
        firstIsNoChange(check);
        everyField(check);
        fieldsThatHaveOne(check);
        times(check);
        ends(check);
        check.end();
    }

    private static void wrongInputs(Check check) {
        SignatureSpans x = Check.file(10);
        check.refuses("wrong field, no place", ILLEGAL, () -> x.sign(20, true, 0));
        check.refuses("wrong time, no place", ILLEGAL, () -> x.sign(0, true, -1));
        check.refuses("no place", STATE, () -> x.sign(0, true, 0));
        x.place(1, 2);
        int[] fields = {-1, 20, 21, Integer.MIN_VALUE, Integer.MAX_VALUE};
        for (int field : fields) {
            check.refuses("field " + field, ILLEGAL, () -> x.sign(field, true, 0));
        }
        check.refuses("time -1", ILLEGAL, () -> x.sign(0, true, -1));
        check.refuses("least time", ILLEGAL, () -> x.sign(0, true, Long.MIN_VALUE));
        check.refuses("none of them is a signature", java.util.NoSuchElementException.class, () -> x.holds(0));
        check.answers("field 19, latest time", 0, () -> x.sign(19, true, Long.MAX_VALUE));
        x.chain(0, Long.MAX_VALUE, Long.MAX_VALUE);
        check.answers("it holds", 1, () -> x.holds(0));
    }

    private static void latestPlace(Check check) {
        SignatureSpans x = Check.file(20);
        x.place(10, 11);
        x.place(2, 3);
        check.answers("signature 0", 0, () -> x.sign(0, true, 0));
        x.place(15, 16);
        check.answers("signature 1", 1, () -> x.sign(1, true, 0));
        check.answers("signature 2", 2, () -> x.sign(2, true, 0));
        check.refuses("no place is left", STATE, () -> x.sign(3, true, 0));
        long[] due = {2, 15, 10};
        for (int i = 0; i < 3; i++) {
            int s = i;
            check.answers("place of " + s, due[s], () -> x.span(s, 0, 1));
            check.answers("behind the place of " + s, due[s] + 1, () -> x.span(s, 1, 0));
        }
        x.place(18, 20);
        check.answers("signature 3", 3, () -> x.sign(3, true, 0));
        check.answers("place of 3", 18, () -> x.span(3, 0, 1));
    }

    private static void oneSignatureAField(Check check) {
        SignatureSpans x = Check.file(10);
        x.place(1, 2);
        x.place(3, 4);
        x.sign(7, true, 0);
        check.refuses("field 7 again", STATE, () -> x.sign(7, true, 0));
        check.answers("that is no change", 0, () -> x.since(0, -1, 0));
        check.answers("a field that is only changed", 1, () -> x.change(0, 8));
        check.answers("field 8", 1, () -> x.sign(8, true, 0));
        check.answers("of place 0", 1, () -> x.span(1, 0, 1));
        check.answers("its change", 2, () -> x.since(0, -1, 0));
        check.answers("its change's kind", 0, () -> x.since(0, 1, 0));
        check.answers("its change's field", 8, () -> x.since(0, 1, 1));
        check.answers("none is since it", 0, () -> x.since(1, -1, 0));
    }

    private static void eight(Check check) {
        SignatureSpans x = Check.file(20);
        for (int i = 0; i < 8; i++) {
            x.place(2 * i, 2 * i + 1);
        }
        for (int i = 0; i < 8; i++) {
            int s = i;
            check.answers("signature " + s, s, () -> x.sign(19 - s, true, s));
        }
        check.refuses("a ninth one has no place", STATE, () -> x.sign(0, true, 0));
        check.refuses("a ninth one of a wrong field", ILLEGAL, () -> x.sign(20, true, 0));
        check.answers("changes", 7, () -> x.since(0, -1, 0));
        check.refuses("holds(8)", java.util.NoSuchElementException.class, () -> x.holds(8));
    }

    private static void noRoomForItsChange(Check check) {
        SignatureSpans x = Check.file(10);
        x.place(1, 2);
        x.place(3, 4);
        x.sign(0, true, 0);
        for (int i = 0; i < 40; i++) {
            x.change(1, 1);
        }
        check.refuses("the 41st change", FULL, () -> x.sign(1, true, 0));
        check.refuses("a field that has one", STATE, () -> x.sign(0, true, 0));
        check.refuses("a wrong field", ILLEGAL, () -> x.sign(-1, true, 0));
        check.refuses("no second signature", java.util.NoSuchElementException.class, () -> x.behind(1));
        check.refuses("a wrong time", ILLEGAL, () -> x.sign(1, true, -1));
        check.answers("as many changes", 40, () -> x.since(0, -1, 0));
    }

    private static void firstIsNoChange(Check check) {
        SignatureSpans x = Check.file(10);
        x.place(1, 2);
        x.place(3, 4);
        for (int i = 0; i < 40; i++) {
            x.change(1, 1);
        }
        check.answers("signature 0 needs no room", 0, () -> x.sign(0, true, 0));
        check.answers("none is since it", 0, () -> x.since(0, -1, 0));
        check.refuses("signature 1 does", FULL, () -> x.sign(1, true, 0));

        SignatureSpans y = Check.file(10);
        y.place(1, 2);
        y.place(3, 4);
        for (int i = 0; i < 39; i++) {
            y.change(1, 1);
        }
        y.sign(0, true, 0);
        check.answers("the 40th change", 1, () -> y.sign(1, true, 0));
        check.answers("one since 0", 1, () -> y.since(0, -1, 0));
        check.refuses("a 41st one", FULL, () -> y.change(0, 0));
        check.refuses("no place is told before no room", STATE, () -> y.sign(2, true, 0));
    }

    private static void everyField(Check check) {
        for (int i = 0; i < 20; i++) {
            int field = i;
            SignatureSpans x = Check.file(10);
            x.place(1, 2);
            x.place(3, 4);
            check.answers("field " + i, 0, () -> x.sign(field, true, 0));
            check.refuses("field " + i + " again", STATE, () -> x.sign(field, true, 0));
            check.answers("another field", 1, () -> x.sign((field + 1) % 20, true, 0));
            check.answers("its change's field", (field + 1) % 20, () -> x.since(0, 0, 1));
        }
    }

    /** Not only the latest signature's field is one that has a signature. */
    private static void fieldsThatHaveOne(Check check) {
        SignatureSpans x = Check.file(20);
        for (int i = 0; i < 8; i++) {
            x.place(2 * i, 2 * i + 1);
        }
        for (int i = 0; i < 7; i++) {
            int field = 3 * i % 20;
            check.answers("signature " + i, i, () -> x.sign(field, true, 0));
            for (int k = 0; k <= i; k++) {
                int again = 3 * k % 20;
                check.refuses("field " + again + " again", STATE, () -> x.sign(again, false, 9));
            }
        }
    }

    /** Time 0 and the latest one, and that all of a time's bits are kept. */
    private static void times(Check check) {
        long[] times = {0, 1, (1L << 31) - 1, 1L << 31, 1L << 32, (1L << 32) + 1, Long.MAX_VALUE};
        for (long time : times) {
            SignatureSpans x = Check.file(3);
            x.place(0, 1);
            check.answers("time " + time, 0, () -> x.sign(0, true, time));
            x.chain(0, time, time);
            check.answers("its time is " + time, 1, () -> x.holds(0));
        }
        long[] wrong = {-1, -(1L << 31), -(1L << 32), -(1L << 32) + 1, Long.MIN_VALUE, Long.MIN_VALUE + 1};
        for (long time : wrong) {
            SignatureSpans x = Check.file(3);
            x.place(0, 1);
            check.refuses("time " + time, ILLEGAL, () -> x.sign(0, true, time));
            check.answers("the place is still free", 0, () -> x.sign(0, true, 0));
        }
    }

    /** Each one's end is how many bytes the file has when it is made. */
    private static void ends(Check check) {
        SignatureSpans x = Check.file(9);
        for (int i = 0; i < 8; i++) {
            x.place(i, i + 1);
        }
        for (int i = 0; i < 8; i++) {
            x.sign(i, true, 0);
            x.add((byte) i);
        }
        for (int i = 0; i < 8; i++) {
            int s = i;
            check.answers("end of " + i, 9 + i, () -> x.span(s, 1, 1));
            check.answers("behind " + i, 8 - i, () -> x.behind(s));
        }
    }
}
