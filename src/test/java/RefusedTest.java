import java.util.List;
import java.util.NoSuchElementException;

/**
 * 'A call that throws changes nothing; where several exceptions that a call
 * names fit, it is the one that it names first': each sentence of the document
 * that refuses a call, in states from a new object to one that is full.
 */
public final class RefusedTest {
    private static final Class<NoSuchElementException> NONE = NoSuchElementException.class;
    private static final Class<IndexOutOfBoundsException> INDEX = IndexOutOfBoundsException.class;
    private static final Class<ArrayIndexOutOfBoundsException> ARRAY = ArrayIndexOutOfBoundsException.class;
    private static final Class<IllegalArgumentException> ILLEGAL = IllegalArgumentException.class;
    private static final Class<IllegalStateException> STATE = IllegalStateException.class;
    private static final Class<UnsupportedOperationException> FULL = UnsupportedOperationException.class;

    private record State(String name, int bytes, int signatures, Run run) { }

    private static final State EMPTY = new State("empty", 0, 0, new Run());
    private static final State PLAIN = new State("plain", 20, 2, plain());
    private static final State FILLED = new State("full", 24, 8, filled());
    private static final List<State> ALL = List.of(EMPTY, PLAIN, FILLED);

    /** As the plain one, but one thing is full, so that all else may still change. */
    private static final State PLACES = new State("8 places", 20, 2, eightPlaces());
    private static final State ROWS = new State("4 rows", 20, 2, plain().times(2, x -> x.chain(0, 40, 60)));
    private static final State CHANGES = new State("40 changes", 20, 2, plain().times(36, x -> x.change(3, 7)));
    private static final State STAMPS = new State("10 stamps", 20, 2, plain().times(8, x -> x.stamp(5)));

    private final Check check = new Check("RefusedTest");

    public static void main(String[] args) {
        RefusedTest test = new RefusedTest();
        for (State at : ALL) {
            test.noSuchSignature(at);
            test.poke(at);
            test.place(at);
            test.sign(at);
            test.change(at);
            test.stamps(at);
            for (int s = 0; s < at.signatures; s += 7) {
                test.ofSignature(at, s);
            }
        }
        test.place(PLACES);
        test.sharedPlace();
        test.ninthPlace();
        test.sign(CHANGES);
        test.noPlaceOrField();
        test.noRoomToSign();
        test.fifthRow();
        test.change(CHANGES);
        test.change41();
        test.stamps(STAMPS);
        test.stamp11();
        test.noByte();
        test.check.end();
    }

    /** Two signatures and a free place; signature 0 certifies and locks, signature 1 allows not all. */
    private static Run plain() {
        return Run.file(18).then(x -> x.place(2, 4), x -> x.place(9, 10), x -> x.place(15, 17),
                x -> x.stamp(8), x -> x.change(1, 2), x -> x.sign(5, true, 50), x -> x.add((byte) 1),
                x -> x.sign(6, false, 60), x -> x.chain(0, 0, 100), x -> x.chain(0, 50, 50), x -> x.chain(1, 0, 9),
                x -> x.change(0, 3), x -> x.change(2, 4), x -> x.certify(0, 2), x -> x.lock(0, 3),
                x -> x.lock(1, 19), x -> x.allow(1, 5), x -> x.stamp(3), x -> x.add((byte) 2),
                Run.tell(1, 1, -7, 1L << 40));
    }

    private static Run eightPlaces() {
        Run run = plain();
        for (int i = 0; i < 5; i++) {
            int from = 4 + i;
            run.then(x -> x.place(from, from + 1));
        }
        return run;
    }

    /** As many places, signatures, rows, changes and stamps as there may be. */
    private static Run filled() {
        Run run = Run.file(24);
        for (int i = 0; i < 8; i++) {
            int from = 3 * i;
            run.then(x -> x.place(from, from + 2));
        }
        for (int i = 0; i < 8; i++) {
            int s = i;
            run.then(x -> x.sign(19 - s, true, s)).times(4, x -> x.chain(s, 0, 10)).then(x -> x.lock(s, s));
        }
        run.times(33, x -> x.change(1, 1)).then(x -> x.certify(0, 3));
        for (int i = 0; i < 10; i++) {
            long time = 7 * i % 10;
            run.then(x -> x.stamp(time));
        }
        return run;
    }

    private void refused(State at, String call, Class<? extends RuntimeException> due, Run.Step step) {
        Twins.refused(check, at.name + ": " + call, at.run, due, step);
    }

    /** Each call that names a signature, with what else of it is right, and with what is wrong. */
    private void noSuchSignature(State at) {
        int[] none = {-1, at.signatures, Integer.MAX_VALUE, Integer.MIN_VALUE};
        for (int s : none) {
            refused(at, "holds " + s, NONE, x -> x.holds(s));
            refused(at, "behind " + s, NONE, x -> x.behind(s));
            refused(at, "allow " + s, NONE, x -> x.allow(s, 6));
            refused(at, "span " + s, NONE, x -> x.span(s, 0, 0));
            refused(at, "span 2 " + s, NONE, x -> x.span(s, 2, 2));
            refused(at, "tell " + s, NONE, Run.tell(s, 0, 3, 3));
            refused(at, "tell 2 " + s, NONE, Run.tell(s, 2, 3, 3));
            refused(at, "chain " + s, NONE, x -> x.chain(s, 200, 300));
            refused(at, "chain back " + s, NONE, x -> x.chain(s, 300, 200));
            refused(at, "lock " + s, NONE, x -> x.lock(s, 11));
            refused(at, "lock 20 " + s, NONE, x -> x.lock(s, 20));
            refused(at, "certify " + s, NONE, x -> x.certify(s, 1));
            refused(at, "certify 0 " + s, NONE, x -> x.certify(s, 0));
            refused(at, "since " + s, NONE, x -> x.since(s, -1, 0));
            refused(at, "since 99 " + s, NONE, x -> x.since(s, 99, 9));
            refused(at, "digest " + s, NONE, x -> x.digest(s, 0));
            refused(at, "digest 32 " + s, NONE, x -> x.digest(s, 32));
        }
    }

    private void poke(State at) {
        long[] wrong = {-1, at.bytes, at.bytes + 1, 1500, 1L << 32, Long.MAX_VALUE, Long.MIN_VALUE};
        for (long i : wrong) {
            refused(at, "poke " + i, INDEX, x -> x.poke(i, 255));
        }
    }

    /** Not in the file, or no byte: told before there are 8, too. */
    private void place(State at) {
        long size = at.bytes;
        long[][] wrong = {
            {-1, 1}, {-2, -1}, {0, 0}, {size, size}, {size - 1, size + 1}, {size, size + 1}, {0, size + 1}, {3, 2},
            {1L << 32, (1L << 32) + 1}, {Long.MIN_VALUE, Long.MAX_VALUE}, {Long.MAX_VALUE, Long.MIN_VALUE}
        };
        for (long[] w : wrong) {
            refused(at, "place " + w[0] + " " + w[1], ILLEGAL, x -> x.place(w[0], w[1]));
        }
    }

    /** A wrong field or time: told before there is no place, no field, or no room. */
    private void sign(State at) {
        int[] fields = {-1, 20, Integer.MAX_VALUE, Integer.MIN_VALUE};
        for (int field : fields) {
            refused(at, "sign " + field, ILLEGAL, x -> x.sign(field, true, 0));
        }
        refused(at, "sign at -1", ILLEGAL, x -> x.sign(10, true, -1));
        refused(at, "sign at the least time", ILLEGAL, x -> x.sign(10, false, Long.MIN_VALUE));
        refused(at, "sign 20 at -1", ILLEGAL, x -> x.sign(20, true, -1));
        refused(at, "sign 5 at -1", ILLEGAL, x -> x.sign(5, true, -1));
    }

    /** A wrong kind or field: told before there are 40. */
    private void change(State at) {
        int[][] wrong = {
            {-1, 0}, {4, 0}, {0, -1}, {0, 20}, {4, 20}, {Integer.MIN_VALUE, 0}, {0, Integer.MAX_VALUE}
        };
        for (int[] w : wrong) {
            refused(at, "change " + w[0] + " " + w[1], ILLEGAL, x -> x.change(w[0], w[1]));
        }
    }

    /** A wrong time: told before there are 10. */
    private void stamps(State at) {
        refused(at, "stamp -1", ILLEGAL, x -> x.stamp(-1));
        refused(at, "stamp at the least time", ILLEGAL, x -> x.stamp(Long.MIN_VALUE));
        int[][] wrong = {
            {-2, 0}, {10, 0}, {0, -1}, {0, 4}, {Integer.MAX_VALUE, 0}, {Integer.MIN_VALUE, 0}, {-2, 4}
        };
        for (int[] w : wrong) {
            refused(at, "stamped " + w[0] + " " + w[1], INDEX, x -> x.stamped(w[0], w[1]));
        }
    }

    private void ofSignature(State at, int s) {
        int[] wrong = {-1, 2, Integer.MAX_VALUE, Integer.MIN_VALUE};
        for (int w : wrong) {
            refused(at, "span " + s + " " + w, INDEX, x -> x.span(s, w, 0));
            refused(at, "side " + s + " " + w, INDEX, x -> x.span(s, 1, w));
            refused(at, "tell " + s + " " + w, INDEX, Run.tell(s, w, 3, 3));
        }
        refused(at, "chain back " + s, ILLEGAL, x -> x.chain(s, 9, 8));
        refused(at, "chain far back " + s, ILLEGAL, x -> x.chain(s, Long.MAX_VALUE, Long.MIN_VALUE));
        int[] fields = {-1, 20, Integer.MAX_VALUE, Integer.MIN_VALUE};
        for (int field : fields) {
            refused(at, "lock " + s + " " + field, ILLEGAL, x -> x.lock(s, field));
        }
        int[] levels = {-1, 0, 4, Integer.MAX_VALUE, Integer.MIN_VALUE};
        for (int level : levels) {
            refused(at, "certify " + s + " " + level, ILLEGAL, x -> x.certify(s, level));
        }
        int[][] since = {{-2, 0}, {40, 0}, {0, -1}, {0, 3}, {Integer.MAX_VALUE, 0}, {Integer.MIN_VALUE, 0}};
        for (int[] w : since) {
            refused(at, "since " + s + " " + w[0] + " " + w[1], INDEX, x -> x.since(s, w[0], w[1]));
        }
        int[] digest = {-1, 32, Integer.MAX_VALUE, Integer.MIN_VALUE};
        for (int i : digest) {
            refused(at, "digest " + s + " " + i, ARRAY, x -> x.digest(s, i));
        }
    }

    /** A byte of another place, free or a signature's, first or last: told before there are 8, too. */
    private void sharedPlace() {
        long[][] shared = {{2, 4}, {3, 4}, {1, 3}, {9, 10}, {8, 11}, {16, 18}, {14, 16}, {0, 20}};
        for (long[] w : shared) {
            refused(PLAIN, "place " + w[0] + " " + w[1], ILLEGAL, x -> x.place(w[0], w[1]));
            refused(PLACES, "place " + w[0] + " " + w[1], ILLEGAL, x -> x.place(w[0], w[1]));
        }
        refused(FILLED, "place over the first", ILLEGAL, x -> x.place(1, 3));
        refused(FILLED, "place over the last", ILLEGAL, x -> x.place(22, 24));
    }

    private void ninthPlace() {
        refused(PLACES, "a ninth place", FULL, x -> x.place(0, 1));
        refused(PLACES, "a ninth place at the end", FULL, x -> x.place(17, 20));
        refused(FILLED, "a ninth place", FULL, x -> x.place(23, 24));
    }

    /** Told before there is no room for its change, too. */
    private void noPlaceOrField() {
        refused(EMPTY, "sign without a place", STATE, x -> x.sign(0, true, 0));
        for (State at : List.of(PLAIN, CHANGES)) {
            refused(at, "sign the first field again", STATE, x -> x.sign(5, true, 0));
            refused(at, "sign the second field again", STATE, x -> x.sign(6, false, 1));
        }
        refused(FILLED, "a ninth signature has no place", STATE, x -> x.sign(0, true, 0));
        refused(FILLED, "nor has one of a field again", STATE, x -> x.sign(19, true, 0));
        Run left = plain().then(x -> x.sign(2, true, 0));
        Twins.refused(check, "no place is left", left, STATE, x -> x.sign(1, true, 0));
        left.times(35, x -> x.change(1, 1));
        Twins.refused(check, "neither a place nor room", left, STATE, x -> x.sign(1, true, 0));
    }

    private void noRoomToSign() {
        refused(CHANGES, "sign without room for its change", FULL, x -> x.sign(2, true, 0));
        refused(CHANGES, "sign falsely without room for its change", FULL, x -> x.sign(19, false, Long.MAX_VALUE));
    }

    /** To below from is told before it has 4, too. */
    private void fifthRow() {
        refused(ROWS, "a fifth row", FULL, x -> x.chain(0, 90, 99));
        refused(ROWS, "a fifth row that would do", FULL, x -> x.chain(0, 50, 50));
        refused(ROWS, "a fifth row back", ILLEGAL, x -> x.chain(0, 99, 90));
        for (int i = 0; i < 8; i++) {
            int s = i;
            refused(FILLED, "a fifth row of " + i, FULL, x -> x.chain(s, 90, 99));
        }
    }

    private void change41() {
        for (int k = 0; k < 4; k++) {
            int kind = k;
            refused(CHANGES, "change 41 of kind " + k, FULL, x -> x.change(kind, 9));
            refused(FILLED, "change 41 of kind " + k, FULL, x -> x.change(kind, 19));
        }
    }

    private void stamp11() {
        for (State at : List.of(STAMPS, FILLED)) {
            refused(at, "stamp 11, first in order", FULL, x -> x.stamp(0));
            refused(at, "stamp 11, last in order", FULL, x -> x.stamp(Long.MAX_VALUE));
        }
    }

    /** 1,500 bytes need more than the 512 calls, so this is looked at as the class has it. */
    private void noByte() {
        Run plain = plain().times(1500 - PLAIN.bytes, x -> x.add((byte) 3)).then(x -> x.stamp(1));
        Run filled = filled().times(1500 - FILLED.bytes, x -> x.add((byte) 3));
        for (int i = 0; i < 3; i++) {
            byte b = (byte) (i - 1);
            Twins.refusedLate(check, "byte 1501: " + b, plain, FULL, x -> x.add(b));
            Twins.refusedLate(check, "byte 1501 when all is full: " + b, filled, FULL, x -> x.add(b));
        }
    }
}
