import java.util.NoSuchElementException;

/** Promise 6 (holds). */
public final class HoldsTest {
    public static void main(String[] args) {
        Check check = new Check("HoldsTest");
        noSuch(check);
        eachFault(check);
        firstFaultIsTold(check);
        bytes(check);
        chains(check);
        otherSignatures(check);
        check.end();
    }

    private static void noSuch(Check check) {
        SignatureSpans x = Check.signed();
        int[] wrong = {-1, 1, 7, 8, Integer.MAX_VALUE, Integer.MIN_VALUE};
        for (int s : wrong) {
            check.refuses("holds(" + s + ")", NoSuchElementException.class, () -> x.holds(s));
        }
        check.answers("holds(0)", 1, () -> x.holds(0));
    }

    private static void told(Check check, int due, int i, long from, long to) {
        SignatureSpans x = Check.signed();
        x.tell(0, i, from, to);
        check.answers("span " + i + " told " + from + " to " + to, due, () -> x.holds(0));
    }

    private static void eachFault(Check check) {
        told(check, 1, 0, 0, 4);
        told(check, 2, 0, 1, 4);
        told(check, 2, 0, -1, 4);
        told(check, 2, 0, 1L << 32, 4);
        told(check, 3, 0, 0, 3);
        told(check, 3, 0, 0, 5);
        told(check, 3, 0, 0, (1L << 32) + 4);
        told(check, 1, 1, 6, 20);
        told(check, 3, 1, 5, 20);
        told(check, 3, 1, 7, 20);
        told(check, 4, 1, 6, 19);
        told(check, 4, 1, 6, 21);
        told(check, 4, 1, 6, Long.MIN_VALUE);

        SignatureSpans x = Check.file(20);
        x.place(4, 6);
        x.sign(0, false, 50);
        x.chain(0, 0, 100);
        check.answers("a verdict that is not good", 6, () -> x.holds(0));

        SignatureSpans y = Check.signed();
        y.lock(0, 3);
        y.change(0, 3);
        check.answers("a change that is not allowed", 8, () -> y.holds(0));
    }

    /** All faults at once; mending them one by one tells the next number each time. */
    private static void firstFaultIsTold(Check check) {
        SignatureSpans x = Check.file(20);
        x.place(4, 6);
        x.sign(0, false, 50);
        x.allow(0, 0);
        x.change(3, 3);
        x.poke(0, 1);
        x.tell(0, 0, 1, 5);
        x.tell(0, 1, 7, 21);
        check.answers("2 of all", 2, () -> x.holds(0));
        x.tell(0, 0, 0, 5);
        check.answers("3 of the rest, both", 3, () -> x.holds(0));
        x.tell(0, 0, 0, 4);
        check.answers("3 of the rest, the second span", 3, () -> x.holds(0));
        x.tell(0, 1, 6, 21);
        check.answers("4 of the rest", 4, () -> x.holds(0));
        x.tell(0, 1, 6, 20);
        check.answers("5 of the rest", 5, () -> x.holds(0));
        x.poke(0, 1);
        check.answers("6 of the rest", 6, () -> x.holds(0));

        SignatureSpans y = Check.file(20);
        y.place(4, 6);
        y.sign(0, true, 50);
        y.allow(0, 0);
        y.change(3, 3);
        check.answers("7 before 8", 7, () -> y.holds(0));
        y.chain(0, 50, 50);
        check.answers("8 alone", 8, () -> y.holds(0));
        y.allow(0, 15);
        check.answers("none", 1, () -> y.holds(0));
    }

    private static void bytes(Check check) {
        SignatureSpans x = Check.signed();
        for (int i = 0; i < 20; i++) {
            boolean inPlace = i == 4 || i == 5;
            x.poke(i, 16);
            check.answers("byte " + i + " is another one", inPlace ? 1 : 5, () -> x.holds(0));
            x.poke(i, 16);
            check.answers("byte " + i + " is as before", 1, () -> x.holds(0));
        }
        Check.grow(x, 20, 30);
        check.answers("bytes behind", 1, () -> x.holds(0));
        x.poke(20, 1);
        check.answers("a byte behind is another one", 1, () -> x.holds(0));
        x.tell(0, 1, 6, 30);
        check.answers("the end does not grow", 4, () -> x.holds(0));
    }

    private static void chain(Check check, int due, long time, long... rows) {
        SignatureSpans x = Check.file(5);
        x.place(0, 1);
        x.sign(0, true, time);
        for (int i = 0; i < rows.length; i += 2) {
            x.chain(0, rows[i], rows[i + 1]);
        }
        check.answers("chain of " + rows.length / 2 + ", time " + time, due, () -> x.holds(0));
    }

    private static void chains(Check check) {
        chain(check, 7, 5);
        chain(check, 1, 5, 5, 5);
        chain(check, 1, 5, 5, 9);
        chain(check, 1, 5, 1, 5);
        chain(check, 7, 5, 1, 4);
        chain(check, 7, 5, 6, 9);
        chain(check, 1, 0, Long.MIN_VALUE, Long.MAX_VALUE);
        chain(check, 7, 0, -9, -1);
        chain(check, 1, 5, 0, 9, 1, 8, 2, 7, 5, 5);
        chain(check, 7, 5, 0, 9, 1, 8, 2, 7, 6, 6);
        chain(check, 7, 5, 6, 6, 1, 8, 2, 7, 5, 5);
        chain(check, 7, 5, 1, 8, 9, 9, 2, 7);
    }

    private static void otherSignatures(Check check) {
        SignatureSpans x = Check.signed();
        x.place(10, 12);
        x.sign(1, true, 7);
        x.chain(1, 7, 7);
        check.answers("0 holds", 1, () -> x.holds(0));
        check.answers("1 holds", 1, () -> x.holds(1));
        x.poke(4, 1);
        check.answers("0 leaves its place out", 1, () -> x.holds(0));
        check.answers("1 does not leave it out", 5, () -> x.holds(1));
        x.poke(4, 1);
        x.poke(11, 1);
        check.answers("0 does not leave 1's place out", 5, () -> x.holds(0));
        check.answers("1 does", 1, () -> x.holds(1));
        x.poke(11, 1);
        x.allow(0, 14);
        check.answers("the second signature is a change", 8, () -> x.holds(0));
        check.answers("but not since itself", 1, () -> x.holds(1));
    }
}
