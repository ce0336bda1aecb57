import java.util.NoSuchElementException;

/** Promise 6 (holds). */
public final class HoldsTest {
    public static void main(String[] args) {
        Check check = new Check("HoldsTest");
        noSuch(check);
        eachFault(check);
        firstFaultIsTold(check);
        bytes(check);
        chains(check);
        otherSignatures(check);
        everyMixture(check);
        changesBefore(check);
        whichChange(check);
        lastCall(check);
        check.end();
    }

    private static void noSuch(Check check) {
        SignatureSpans x = Check.signed();
        int[] wrong = {-1, 1, 7, 8, Integer.MAX_VALUE, Integer.MIN_VALUE};
        for (int s : wrong) {
            check.refuses("holds(" + s + ")", NoSuchElementException.class, () -> x.holds(s));
        }
        check.answers("holds(0)", 1, () -> x.holds(0));
    }

    private static void told(Check check, int due, int i, long from, long to) {
        SignatureSpans x = Check.signed();
        x.tell(0, i, from, to);
        check.answers("span " + i + " told " + from + " to " + to, due, () -> x.holds(0));
    }

    private static void eachFault(Check check) {
        told(check, 1, 0, 0, 4);
        told(check, 2, 0, 1, 4);
        told(check, 2, 0, -1, 4);
        told(check, 2, 0, 1L << 32, 4);
        told(check, 3, 0, 0, 3);
        told(check, 3, 0, 0, 5);
        told(check, 3, 0, 0, (1L << 32) + 4);
        told(check, 1, 1, 6, 20);
        told(check, 3, 1, 5, 20);
        told(check, 3, 1, 7, 20);
        told(check, 4, 1, 6, 19);
        told(check, 4, 1, 6, 21);
        told(check, 4, 1, 6, Long.MIN_VALUE);
        told(check, 2, 0, Long.MIN_VALUE, 4);
        told(check, 3, 0, 0, Long.MAX_VALUE);
        told(check, 3, 1, (1L << 32) + 6, 20);
        told(check, 3, 1, Long.MIN_VALUE, 20);
        told(check, 4, 1, 6, (1L << 32) + 20);
        told(check, 4, 1, 6, 0);

        SignatureSpans x = Check.file(20);
        x.place(4, 6);
        x.sign(0, false, 50);
        x.chain(0, 0, 100);
        check.answers("a verdict that is not good", 6, () -> x.holds(0));

        SignatureSpans y = Check.signed();
        y.lock(0, 3);
        y.change(0, 3);
        check.answers("a change that is not allowed", 8, () -> y.holds(0));
    }

    /** All faults at once; mending them one by one tells the next number each time. */
    private static void firstFaultIsTold(Check check) {
        SignatureSpans x = Check.file(20);
        x.place(4, 6);
        x.sign(0, false, 50);
        x.allow(0, 0);
        x.change(3, 3);
        x.poke(0, 1);
        x.tell(0, 0, 1, 5);
        x.tell(0, 1, 7, 21);
        check.answers("2 of all", 2, () -> x.holds(0));
        x.tell(0, 0, 0, 5);
        check.answers("3 of the rest, both", 3, () -> x.holds(0));
        x.tell(0, 0, 0, 4);
        check.answers("3 of the rest, the second span", 3, () -> x.holds(0));
        x.tell(0, 1, 6, 21);
        check.answers("4 of the rest", 4, () -> x.holds(0));
        x.tell(0, 1, 6, 20);
        check.answers("5 of the rest", 5, () -> x.holds(0));
        x.poke(0, 1);
        check.answers("6 of the rest", 6, () -> x.holds(0));

        SignatureSpans y = Check.file(20);
        y.place(4, 6);
        y.sign(0, true, 50);
        y.allow(0, 0);
        y.change(3, 3);
        check.answers("7 before 8", 7, () -> y.holds(0));
        y.chain(0, 50, 50);
        check.answers("8 alone", 8, () -> y.holds(0));
        y.allow(0, 15);
        check.answers("none", 1, () -> y.holds(0));
    }

    private static void bytes(Check check) {
        SignatureSpans x = Check.signed();
        for (int i = 0; i < 20; i++) {
            boolean inPlace = i == 4 || i == 5;
            x.poke(i, 16);
            check.answers("byte " + i + " is another one", inPlace ? 1 : 5, () -> x.holds(0));
            x.poke(i, 16);
            check.answers("byte " + i + " is as before", 1, () -> x.holds(0));
        }
        Check.grow(x, 20, 30);
        check.answers("bytes behind", 1, () -> x.holds(0));
        x.poke(20, 1);
        check.answers("a byte behind is another one", 1, () -> x.holds(0));
        x.tell(0, 1, 6, 30);
        check.answers("the end does not grow", 4, () -> x.holds(0));
    }

    private static void chain(Check check, int due, long time, long... rows) {
        SignatureSpans x = Check.file(5);
        x.place(0, 1);
        x.sign(0, true, time);
        for (int i = 0; i < rows.length; i += 2) {
            x.chain(0, rows[i], rows[i + 1]);
        }
        check.answers("chain of " + rows.length / 2 + ", time " + time, due, () -> x.holds(0));
    }

    private static void chains(Check check) {
        chain(check, 7, 5);
        chain(check, 1, 5, 5, 5);
        chain(check, 1, 5, 5, 9);
        chain(check, 1, 5, 1, 5);
        chain(check, 7, 5, 1, 4);
        chain(check, 7, 5, 6, 9);
        chain(check, 1, 0, Long.MIN_VALUE, Long.MAX_VALUE);
        chain(check, 7, 0, -9, -1);
        chain(check, 1, 5, 0, 9, 1, 8, 2, 7, 5, 5);
        chain(check, 7, 5, 0, 9, 1, 8, 2, 7, 6, 6);
        chain(check, 7, 5, 6, 6, 1, 8, 2, 7, 5, 5);
        chain(check, 7, 5, 1, 8, 9, 9, 2, 7);
    }

    private static void otherSignatures(Check check) {
        SignatureSpans x = Check.signed();
        x.place(10, 12);
        x.sign(1, true, 7);
        x.chain(1, 7, 7);
        check.answers("0 holds", 1, () -> x.holds(0));
        check.answers("1 holds", 1, () -> x.holds(1));
        x.poke(4, 1);
        check.answers("0 leaves its place out", 1, () -> x.holds(0));
        check.answers("1 does not leave it out", 5, () -> x.holds(1));
        x.poke(4, 1);
        x.poke(11, 1);
        check.answers("0 does not leave 1's place out", 5, () -> x.holds(0));
        check.answers("1 does", 1, () -> x.holds(1));
        x.poke(11, 1);
        x.allow(0, 14);
        check.answers("the second signature is a change", 8, () -> x.holds(0));
        check.answers("but not since itself", 1, () -> x.holds(1));
    }

    /**
     * Bit k of faults tells whether number k + 2 is so; it is the first of them
     * that is answered. Number 3 is so in three ways.
     */
    private static SignatureSpans faulty(int faults, int way) {
        SignatureSpans x = Check.file(20);
        x.place(4, 6);
        x.sign(0, (faults & 16) == 0, 50);
        boolean third = (faults & 2) != 0;
        x.tell(0, 0, faults & 1, third && way != 1 ? 3 : 4);
        x.tell(0, 1, third && way != 0 ? 7 : 6, (faults & 4) == 0 ? 20 : 21);
        if ((faults & 8) != 0) {
            x.poke(19, 1);
        }
        if ((faults & 32) == 0) {
            x.chain(0, 50, 50);
        }
        x.allow(0, 14);
        x.change((faults & 64) == 0 ? 1 : 0, 5);
        return x;
    }

    private static void everyMixture(Check check) {
        for (int faults = 0; faults < 128; faults++) {
            int due = faults == 0 ? 1 : Integer.numberOfTrailingZeros(faults) + 2;
            for (int way = 0; way < 3; way++) {
                SignatureSpans x = faulty(faults, way);
                check.answers("faults " + faults + ", way " + way, due, () -> x.holds(0));
            }
        }
    }

    /** Those that came before a signature do not count for it, its own change among them. */
    private static void changesBefore(Check check) {
        SignatureSpans x = Check.file(20);
        x.place(4, 6);
        x.place(10, 12);
        x.place(14, 15);
        for (int kind = 0; kind < 4; kind++) {
            x.change(kind, 1);
        }
        for (int i = 0; i < 3; i++) {
            int s = i;
            x.sign(s, true, 0);
            x.chain(s, 0, 0);
            x.allow(s, 0);
            check.answers("all came before " + s, 1, () -> x.holds(s));
        }
        check.answers("0 has some since", 8, () -> x.holds(0));
        check.answers("1 has one since", 8, () -> x.holds(1));
        check.answers("2 has none", 1, () -> x.holds(2));
        x.change(3, 19);
        check.answers("2 has one", 8, () -> x.holds(2));
    }

    /** The one that is not allowed is the first, the last, or between. */
    private static void whichChange(Check check) {
        for (int i = 0; i < 40; i++) {
            SignatureSpans x = Check.signed();
            x.allow(0, 13);
            for (int k = 0; k < 40; k++) {
                x.change(k == i ? 1 : k % 2 == 0 ? 0 : 3, k % 20);
            }
            check.answers("change " + i + " is not allowed", 8, () -> x.holds(0));
            x.allow(0, 15);
            check.answers("all are allowed", 1, () -> x.holds(0));
        }
    }

    /** An object is used for 512 calls: here the last of them is over 508 bytes. */
    private static void lastCall(Check check) {
        for (int i = 0; i < 2; i++) {
            int size = 508 - i;
            SignatureSpans x = Check.file(size);
            x.place(100, 200);
            x.sign(0, true, 0);
            x.chain(0, 0, 0);
            if (i == 1) {
                x.poke(size - 1, 128);
            }
            check.answers("the 512th call", i == 1 ? 5 : 1, () -> x.holds(0));
        }
    }
}
