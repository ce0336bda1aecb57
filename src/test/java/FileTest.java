import java.util.NoSuchElementException;

/** Promises 1 (a new object), 2 (add) and 3 (poke). */
public final class FileTest {
    private static final Class<NoSuchElementException> NONE = NoSuchElementException.class;
    private static final Class<IndexOutOfBoundsException> INDEX = IndexOutOfBoundsException.class;
    private static final Class<IllegalArgumentException> ILLEGAL = IllegalArgumentException.class;
    private static final Class<UnsupportedOperationException> FULL = UnsupportedOperationException.class;

    public static void main(String[] args) {
        Check check = new Check("FileTest");
        emptyFile(check);
        nothingElse(check);
        objectsShareNothing(check);
        everyByte(check);
        asManyAsCalls(check);
        full(check);
        everyMask(check);
        highBits(check);
        pokeInTheFile(check);
        pokeOneByte(check);
        check.end();
    }

    private static void emptyFile(Check check) {
        SignatureSpans x = new SignatureSpans();
        check.refuses("new: poke(0, 0)", INDEX, () -> x.poke(0, 0));
        check.refuses("new: place(0, 1)", ILLEGAL, () -> x.place(0, 1));
        check.refuses("new: place(0, 0)", ILLEGAL, () -> x.place(0, 0));
        check.answers("new: stamp(0)", 0, () -> x.stamp(0));
        check.answers("new: it is of no byte", 0, () -> x.stamped(0, 2));
        check.answers("new: and good", 1, () -> x.stamped(0, 3));
        check.answers("new: add", 1, () -> x.add((byte) 9));
        check.answers("still good", 1, () -> x.stamped(0, 3));
    }

    /** No signature, place, stamp or change. */
    private static void nothingElse(Check check) {
        SignatureSpans x = new SignatureSpans();
        for (int i = 0; i < 8; i++) {
            int s = i;
            check.refuses("new: holds " + s, NONE, () -> x.holds(s));
            check.refuses("new: span " + s, NONE, () -> x.span(s, 0, 0));
            check.refusesAct("new: tell " + s, NONE, () -> x.tell(s, 0, 0, 0));
            check.refuses("new: chain " + s, NONE, () -> x.chain(s, 0, 0));
            check.refuses("new: allow " + s, NONE, () -> x.allow(s, 0));
            check.refuses("new: lock " + s, NONE, () -> x.lock(s, 0));
            check.refuses("new: certify " + s, NONE, () -> x.certify(s, 1));
            check.refuses("new: since " + s, NONE, () -> x.since(s, -1, 0));
            check.refuses("new: digest " + s, NONE, () -> x.digest(s, 0));
            check.refuses("new: behind " + s, NONE, () -> x.behind(s));
        }
        check.refuses("new: sign", IllegalStateException.class, () -> x.sign(0, true, 0));
        check.answers("new: stamped(-1, 0)", 0, () -> x.stamped(-1, 0));
        check.refuses("new: stamped(0, 0)", INDEX, () -> x.stamped(0, 0));
        check.answers("new: change", 1, () -> x.change(0, 0));
    }

    private static void objectsShareNothing(Check check) {
        SignatureSpans x = Check.signed();
        SignatureSpans y = new SignatureSpans();
        y.add((byte) 1);
        check.answers("y.poke(0, 0)", 1, () -> y.poke(0, 0));
        check.answers("x.poke(0, 0)", 0, () -> x.poke(0, 0));
        check.refuses("y.holds(0)", NONE, () -> y.holds(0));
        check.answers("x.holds(0)", 1, () -> x.holds(0));
    }

    private static void everyByte(Check check) {
        SignatureSpans x = new SignatureSpans();
        for (int i = 0; i < 256; i++) {
            byte b = (byte) (i - 128);
            check.answers("add " + b, i + 1, () -> x.add(b));
        }
        for (int i = 0; i < 256; i++) {
            int n = i;
            check.answers("byte " + i, (i - 128) & 255, () -> x.poke(n, 0));
        }
    }

    /** An object is used for 512 calls: the last of them still adds. */
    private static void asManyAsCalls(Check check) {
        SignatureSpans x = new SignatureSpans();
        for (int i = 1; i <= 512; i++) {
            byte b = (byte) i;
            check.answers("add", i, () -> x.add(b));
        }
    }

    /** The limit lies behind the 512th call, so it is looked at as the class has it. */
    private static void full(Check check) {
        SignatureSpans x = new SignatureSpans();
        for (int i = 1; i <= 1500; i++) {
            byte b = (byte) (i - 700);
            check.answers("add", i, () -> x.add(b));
        }
        check.refuses("add to 1500", FULL, () -> x.add((byte) 1));
        check.refuses("add to 1500 again", FULL, () -> x.add((byte) 1));
        for (int i = 0; i < 1500; i++) {
            int n = i;
            check.answers("byte " + i, (i + 1 - 700) & 255, () -> x.poke(n, 0));
        }
        check.refuses("poke(1500, 0)", INDEX, () -> x.poke(1500, 0));
        check.refuses("place behind the end", ILLEGAL, () -> x.place(1499, 1501));
        check.answers("place at the end", 0, () -> x.place(1499, 1500));
        check.answers("sign", 0, () -> x.sign(0, true, 0));
        check.answers("its end", 1500, () -> x.span(0, 1, 1));
        check.answers("stamp", 0, () -> x.stamp(0));
        check.answers("stamped size", 1500, () -> x.stamped(0, 2));
        check.answers("stamped good", 1, () -> x.stamped(0, 3));
    }

    private static void everyMask(Check check) {
        for (int b = 0; b < 256; b++) {
            SignatureSpans x = new SignatureSpans();
            x.add((byte) b);
            int is = b;
            for (int i = 0; i < 256; i++) {
                int mask = i;
                is ^= mask;
                check.answers("poke(0, " + i + ") from byte " + b, is, () -> x.poke(0, mask));
            }
        }
    }

    private static void highBits(Check check) {
        SignatureSpans x = new SignatureSpans();
        x.add((byte) 0xa5);
        for (int i = 8; i < 32; i++) {
            int mask = 1 << i;
            check.answers("bit " + i, 0xa5, () -> x.poke(0, mask));
        }
        check.answers("poke(0, 0x1234ff00)", 0xa5, () -> x.poke(0, 0x1234ff00));
        check.answers("poke(0, -1)", 0x5a, () -> x.poke(0, -1));
        check.answers("poke(0, least)", 0x5a, () -> x.poke(0, Integer.MIN_VALUE));
        check.answers("poke(0, most)", 0xa5, () -> x.poke(0, Integer.MAX_VALUE));
    }

    private static void pokeInTheFile(Check check) {
        SignatureSpans x = Check.file(3);
        long[] wrong = {
            -1, 3, 4, 1499, 1500, 1L << 31, 1L << 32, (1L << 32) + 1, -(1L << 32), -(1L << 32) + 1,
            Long.MAX_VALUE, Long.MIN_VALUE, Long.MIN_VALUE + 1
        };
        for (long i : wrong) {
            check.refuses("poke(" + i + ", 1)", INDEX, () -> x.poke(i, 1));
        }
        check.answers("the first byte", 0, () -> x.poke(0, 0));
        check.answers("the last byte", 74, () -> x.poke(2, 0));
        x.add((byte) 5);
        check.answers("a byte that came behind", 5, () -> x.poke(3, 0));
        check.refuses("poke(4, 1)", INDEX, () -> x.poke(4, 1));
    }

    private static void pokeOneByte(Check check) {
        for (int i = 0; i < 10; i++) {
            SignatureSpans x = Check.file(10);
            x.poke(i, 255);
            for (int k = 0; k < 10; k++) {
                int n = k;
                int due = k == i ? ~(k * 37) & 255 : k * 37 & 255;
                check.answers("byte " + k + " when " + i + " is changed", due, () -> x.poke(n, 0));
            }
        }
    }
}
