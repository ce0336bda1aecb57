/** Promises 17 (stamp) and 18 (stamped). */
public final class StampTest {
    private static final Class<IllegalArgumentException> ILLEGAL = IllegalArgumentException.class;
    private static final Class<IndexOutOfBoundsException> INDEX = IndexOutOfBoundsException.class;

    public static void main(String[] args) {
        Check check = new Check("StampTest");
        ten(check);
        order(check);
        good(check);
        wrongInputs(check);
        everyOrder(check);
        times(check);
        asThen(check);
        eachLength(check);
        check.end();
    }

    private static void ten(Check check) {
        SignatureSpans x = new SignatureSpans();
        check.refuses("stamp(-1)", ILLEGAL, () -> x.stamp(-1));
        check.refuses("the least time", ILLEGAL, () -> x.stamp(Long.MIN_VALUE));
        check.answers("none is kept", 0, () -> x.stamped(-1, 0));
        for (int i = 0; i < 10; i++) {
            int n = i;
            check.answers("stamp " + i, i, () -> x.stamp(n % 2 == 0 ? Long.MAX_VALUE : 0));
            check.answers("so many", i + 1, () -> x.stamped(-1, 0));
        }
        check.refuses("an eleventh one", UnsupportedOperationException.class, () -> x.stamp(0));
        check.refuses("an eleventh one of a wrong time", ILLEGAL, () -> x.stamp(-1));
        check.answers("ten", 10, () -> x.stamped(-1, 0));
        int[] due = {1, 3, 5, 7, 9, 0, 2, 4, 6, 8};
        for (int i = 0; i < 10; i++) {
            int n = i;
            check.answers("number " + i + " in order", due[i], () -> x.stamped(n, 0));
        }
    }

    private static void order(Check check) {
        SignatureSpans x = new SignatureSpans();
        long[] times = {5, 3, 5, Long.MAX_VALUE, 0, 3, 1L << 32, 3};
        for (int i = 0; i < times.length; i++) {
            x.stamp(times[i]);
            x.add((byte) i);
        }
        int[] due = {4, 1, 5, 7, 0, 2, 6, 3};
        for (int i = 0; i < due.length; i++) {
            int n = i;
            check.answers("number of " + i, due[i], () -> x.stamped(n, 0));
            check.answers("time of " + i, times[due[i]], () -> x.stamped(n, 1));
            check.answers("bytes of " + i, due[i], () -> x.stamped(n, 2));
            check.answers("good of " + i, 1, () -> x.stamped(n, 3));
        }
    }

    /** Stamp 0 is of no byte, stamp 1 of 64, stamp 2 of 65; a place is not left out. */
    private static void good(Check check) {
        SignatureSpans x = new SignatureSpans();
        x.stamp(0);
        Check.grow(x, 0, 64);
        x.stamp(1);
        Check.grow(x, 64, 65);
        x.place(10, 12);
        x.sign(0, true, 0);
        x.stamp(2);
        Check.grow(x, 65, 70);
        int[] pokes = {69, 65, 64, 63, 11, 0};
        int[][] due = {{1, 1, 1}, {1, 1, 1}, {1, 1, 0}, {1, 0, 0}, {1, 0, 0}, {1, 0, 0}};
        for (int i = 0; i < pokes.length; i++) {
            x.poke(pokes[i], 128);
            for (int s = 0; s < 3; s++) {
                int n = s;
                check.answers("byte " + pokes[i] + " changed: stamp " + s, due[i][s], () -> x.stamped(n, 3));
            }
            x.poke(pokes[i], 128);
            check.answers("byte " + pokes[i] + " back", 1, () -> x.stamped(2, 3));
        }
    }

    private static void wrongInputs(Check check) {
        SignatureSpans x = Check.file(3);
        check.refuses("no stamp", INDEX, () -> x.stamped(0, 0));
        x.stamp(7);
        int[] wrong = {-2, 1, 10, Integer.MAX_VALUE, Integer.MIN_VALUE};
        for (int w : wrong) {
            check.refuses("stamped(" + w + ", 0)", INDEX, () -> x.stamped(w, 0));
        }
        int[] wrongWhat = {-1, 4, Integer.MAX_VALUE, Integer.MIN_VALUE};
        for (int w : wrongWhat) {
            check.refuses("stamped(0, " + w + ")", INDEX, () -> x.stamped(0, w));
            check.answers("stamped(-1, " + w + ")", 1, () -> x.stamped(-1, w));
        }
        check.answers("stamped(0, 1)", 7, () -> x.stamped(0, 1));
        check.refuses("stamped(-2, 9)", INDEX, () -> x.stamped(-2, 9));
        check.refuses("stamped(1, 9)", INDEX, () -> x.stamped(1, 9));
    }

    /** All ways in which five stamps can have three times; of one time they stay as they came. */
    private static void everyOrder(Check check) {
        for (int way = 0; way < 243; way++) {
            SignatureSpans x = new SignatureSpans();
            int[] times = new int[5];
            for (int i = 0, rest = way; i < 5; i++, rest /= 3) {
                int n = i;
                times[i] = rest % 3;
                check.answers("way " + way + ": stamp " + i, i, () -> x.stamp(times[n]));
            }
            int at = 0;
            for (int time = 0; time < 3; time++) {
                for (int i = 0; i < 5; i++) {
                    if (times[i] == time) {
                        int n = at;
                        check.answers("way " + way + ": number of " + n, i, () -> x.stamped(n, 0));
                        check.answers("way " + way + ": time of " + n, time, () -> x.stamped(n, 1));
                        at++;
                    }
                }
            }
        }
    }

    /** All of a time's bits are kept, and count in the order. */
    private static void times(Check check) {
        long[] times = {0, 1, (1L << 31) - 1, 1L << 31, 1L << 32, (1L << 32) + 1, Long.MAX_VALUE - 1, Long.MAX_VALUE};
        SignatureSpans x = new SignatureSpans();
        for (int i = times.length - 1; i >= 0; i--) {
            x.stamp(times[i]);
        }
        for (int i = 0; i < times.length; i++) {
            int n = i;
            check.answers("time " + i, times[i], () -> x.stamped(n, 1));
            check.answers("number " + i, times.length - 1 - i, () -> x.stamped(n, 0));
        }
        long[] wrong = {-1, -2, -(1L << 31), -(1L << 32), -(1L << 32) + 1, Long.MIN_VALUE, Long.MIN_VALUE + 1};
        for (long time : wrong) {
            check.refuses("stamp(" + time + ")", ILLEGAL, () -> x.stamp(time));
        }
        check.answers("as many", times.length, () -> x.stamped(-1, 0));
    }

    /** Of the bytes as they are then: the later one is good when the earlier one is not. */
    private static void asThen(Check check) {
        SignatureSpans x = Check.file(10);
        x.stamp(0);
        x.poke(3, 8);
        x.stamp(1);
        check.answers("the earlier one", 0, () -> x.stamped(0, 3));
        check.answers("the later one", 1, () -> x.stamped(1, 3));
        x.poke(3, 8);
        check.answers("the earlier one, byte 3 back", 1, () -> x.stamped(0, 3));
        check.answers("the later one, byte 3 back", 0, () -> x.stamped(1, 3));
        x.add((byte) 3);
        check.answers("a byte behind is not of it", 1, () -> x.stamped(0, 3));
        check.answers("nor does it grow", 10, () -> x.stamped(0, 2));
    }

    /** The first and the last byte that it is of count, the next one does not. */
    private static void eachLength(Check check) {
        for (int size = 1; size <= 130; size++) {
            SignatureSpans x = Check.file(size);
            int end = size;
            x.stamp(0);
            x.add((byte) 9);
            x.poke(end, 1);
            check.answers("behind " + size, 1, () -> x.stamped(0, 3));
            x.poke(end - 1, 1);
            check.answers("last of " + size, 0, () -> x.stamped(0, 3));
            x.poke(end - 1, 1);
            x.poke(0, 128);
            check.answers("first of " + size, 0, () -> x.stamped(0, 3));
            check.answers("so many bytes", end, () -> x.stamped(0, 2));
        }
    }
}
