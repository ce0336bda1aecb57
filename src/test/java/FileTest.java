/** Promises 1 (a new object), 2 (add) and 3 (poke). */
public final class FileTest {
    public static void main(String[] args) {
        Check check = new Check("FileTest");
        newObject(check);
        objectsShareNothing(check);
        add(check);
        poke(check);
        check.end();
    }

    private static void newObject(Check check) {
        SignatureSpans x = new SignatureSpans();
        check.refuses("new: poke(0, 0)", IndexOutOfBoundsException.class, () -> x.poke(0, 0));
        check.refuses("new: place(0, 1)", IllegalArgumentException.class, () -> x.place(0, 1));
        check.refuses("new: holds(0)", java.util.NoSuchElementException.class, () -> x.holds(0));
        check.refuses("new: sign", IllegalStateException.class, () -> x.sign(0, true, 0));
        check.answers("new: stamped(-1, 0)", 0, () -> x.stamped(-1, 0));
        check.answers("new: change", 1, () -> x.change(0, 0));
        check.answers("new: add", 1, () -> x.add((byte) 9));
    }

    private static void objectsShareNothing(Check check) {
        SignatureSpans x = Check.signed();
        SignatureSpans y = new SignatureSpans();
        y.add((byte) 1);
        check.answers("y.poke(0, 0)", 1, () -> y.poke(0, 0));
        check.answers("x.poke(0, 0)", 0, () -> x.poke(0, 0));
        check.refuses("y.holds(0)", java.util.NoSuchElementException.class, () -> y.holds(0));
        check.answers("x.holds(0)", 1, () -> x.holds(0));
    }

    /** The limit lies behind the 512th call, so it is looked at as the class has it. */
    private static void add(Check check) {
        SignatureSpans x = new SignatureSpans();
        for (int i = 1; i <= 1500; i++) {
            byte b = (byte) (i - 700);
            check.answers("add", i, () -> x.add(b));
        }
        check.refuses("add to 1500", UnsupportedOperationException.class, () -> x.add((byte) 1));
        check.refuses("add to 1500 again", UnsupportedOperationException.class, () -> x.add((byte) 1));
        check.answers("byte 0", (1 - 700) & 255, () -> x.poke(0, 0));
        check.answers("byte 1499", (1500 - 700) & 255, () -> x.poke(1499, 0));
        check.refuses("poke(1500, 0)", IndexOutOfBoundsException.class, () -> x.poke(1500, 0));
        check.answers("place at the end", 0, () -> x.place(1499, 1500));
        check.answers("sign", 0, () -> x.sign(0, true, 0));
        check.answers("stamp", 0, () -> x.stamp(0));
        check.answers("stamped size", 1500, () -> x.stamped(0, 2));
        check.answers("stamped good", 1, () -> x.stamped(0, 3));
    }

    private static void poke(Check check) {
        SignatureSpans x = new SignatureSpans();
        x.add((byte) 0);
        x.add((byte) 0x5a);
        x.add((byte) -1);
        check.answers("poke(1, 0)", 0x5a, () -> x.poke(1, 0));
        check.answers("poke(1, 255)", 0xa5, () -> x.poke(1, 255));
        check.answers("poke(1, 0) again", 0xa5, () -> x.poke(1, 0));
        check.answers("poke(1, 0x1234ff00)", 0xa5, () -> x.poke(1, 0x1234ff00));
        check.answers("poke(1, -1)", 0x5a, () -> x.poke(1, -1));
        check.answers("poke(2, 1)", 254, () -> x.poke(2, 1));
        check.answers("poke(0, 128)", 128, () -> x.poke(0, 128));
        check.answers("byte 1 is as it was", 0x5a, () -> x.poke(1, 0));
        long[] wrong = {-1, 3, 4, 1500, 1L << 32, (1L << 32) + 1, -(1L << 32), Long.MAX_VALUE, Long.MIN_VALUE};
        for (long i : wrong) {
            check.refuses("poke(" + i + ", 1)", IndexOutOfBoundsException.class, () -> x.poke(i, 1));
        }
        check.answers("byte 0 stays", 128, () -> x.poke(0, 0));
        check.answers("byte 1 stays", 0x5a, () -> x.poke(1, 0));
        check.answers("byte 2 stays", 254, () -> x.poke(2, 0));
    }
}
