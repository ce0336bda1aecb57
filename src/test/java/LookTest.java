/**
 * Calls that only look, and those that answer 0 because the thing is so
 * already or does not come to be, change nothing either.
 */
public final class LookTest {
    private final Check check = new Check("LookTest");

    public static void main(String[] args) {
        LookTest test = new LookTest();
        test.looks();
        test.sameAgain();
        test.check.end();
    }

    /** Signature 0 holds, signature 1 has changed bytes; the later stamp is the first in order. */
    private static Run some() {
        return Run.file(20).then(x -> x.place(10, 12), x -> x.place(4, 6), x -> x.stamp(9),
                x -> x.sign(3, true, 50), x -> x.sign(4, true, 60), x -> x.chain(0, 0, 100), x -> x.chain(1, 0, 100),
                x -> x.change(1, 7), x -> x.lock(0, 8), x -> x.certify(0, 3), x -> x.poke(5, 255),
                x -> x.stamp(2), x -> x.add((byte) 1));
    }

    private void looks() {
        Run run = some();
        Twins.idle(check, "poke by nothing", run, 37, x -> x.poke(1, 0));
        Twins.idle(check, "poke by high bits", run, 37, x -> x.poke(1, 0x7fffff00));
        Twins.idle(check, "holds(0)", run, 1, x -> x.holds(0));
        Twins.idle(check, "holds(1)", run, 5, x -> x.holds(1));
        Twins.idle(check, "span(0, 0, 1)", run, 4, x -> x.span(0, 0, 1));
        Twins.idle(check, "span(1, 1, 0)", run, 12, x -> x.span(1, 1, 0));
        Twins.idle(check, "since(0, -1, 0)", run, 2, x -> x.since(0, -1, 0));
        Twins.idle(check, "since(0, 1, 0)", run, 1, x -> x.since(0, 1, 0));
        Twins.idle(check, "since(0, 1, 1)", run, 7, x -> x.since(0, 1, 1));
        Twins.idle(check, "since(0, 1, 2)", run, 1, x -> x.since(0, 1, 2));
        Twins.idle(check, "digest(0, 31)", run, run.made().digest(0, 31), x -> x.digest(0, 31));
        Twins.idle(check, "behind(0)", run, 1, x -> x.behind(0));
        Twins.idle(check, "stamped(-1, 0)", run, 2, x -> x.stamped(-1, 0));
        Twins.idle(check, "stamped(0, 0)", run, 1, x -> x.stamped(0, 0));
        Twins.idle(check, "stamped(1, 1)", run, 9, x -> x.stamped(1, 1));
        Twins.idle(check, "stamped(0, 2)", run, 20, x -> x.stamped(0, 2));
        Twins.idle(check, "stamped(0, 3)", run, 1, x -> x.stamped(0, 3));
        Twins.idle(check, "stamped(1, 3)", run, 0, x -> x.stamped(1, 3));
    }

    private void sameAgain() {
        Run run = some();
        Twins.idle(check, "allow what it allows", run, 15, x -> x.allow(0, 15));
        Twins.idle(check, "lock what it locks", run, 0, x -> x.lock(0, 8));
        for (int i = 1; i <= 3; i++) {
            int level = i;
            Twins.idle(check, "certify again, level " + i, run, 0, x -> x.certify(0, level));
            Twins.idle(check, "certify signature 1, level " + i, run, 0, x -> x.certify(1, level));
        }
        Twins.idle(check, "tell as it is", run, 0, Run.tell(0, 1, 6, 20));
    }
}
