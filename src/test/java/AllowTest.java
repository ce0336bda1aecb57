import java.util.NoSuchElementException;

/** Promises 11 (allow), 12 (lock) and 13 (certify). */
public final class AllowTest {
    private static final Class<IllegalArgumentException> ILLEGAL = IllegalArgumentException.class;
    private static final Class<NoSuchElementException> NONE = NoSuchElementException.class;

    public static void main(String[] args) {
        Check check = new Check("AllowTest");
        allow(check);
        lock(check);
        certify(check);
        levels(check);
        together(check);
        everyMixture(check);
        signatureOfLockedField(check);
        oneCertifies(check);
        highBits(check);
        check.end();
    }

    /** Signature 0 with a change of each kind 0 .. 3 of field 5 since it. */
    private static SignatureSpans changed() {
        SignatureSpans x = Check.signed();
        for (int kind = 0; kind < 4; kind++) {
            x.change(kind, 5);
        }
        return x;
    }

    /** Bit k of due tells whether the k-th change since signature 0 is allowed. */
    private static void allowed(Check check, String when, SignatureSpans x, int due) {
        for (int i = 0; i < 4; i++) {
            int n = i;
            check.answers(when + ": change " + i, due >> i & 1, () -> x.since(0, n, 2));
        }
        check.answers(when + ": holds", due == 15 ? 1 : 8, () -> x.holds(0));
    }

    private static void allow(Check check) {
        SignatureSpans x = changed();
        allowed(check, "at first", x, 15);
        int before = 15;
        for (int i = 0; i < 16; i++) {
            int kinds = i;
            check.answers("allow(0, " + kinds + ")", before, () -> x.allow(0, kinds));
            allowed(check, "allow " + kinds, x, kinds);
            before = kinds;
        }
        check.answers("allow(0, 16)", 15, () -> x.allow(0, 16));
        check.answers("allow(0, -1)", 0, () -> x.allow(0, -1));
        check.answers("allow(0, 0x7ffffff5)", 15, () -> x.allow(0, 0x7ffffff5));
        allowed(check, "the lowest four bits", x, 5);
        check.refuses("allow(1, 0)", NONE, () -> x.allow(1, 0));
        check.refuses("allow(-1, 0)", NONE, () -> x.allow(-1, 0));
        check.answers("as before", 5, () -> x.allow(0, 5));
        x.place(8, 9);
        x.sign(1, true, 0);
        check.answers("another signature allows all", 15, () -> x.allow(1, 2));
        check.answers("and changes its own alone", 5, () -> x.allow(0, 5));
    }

    private static void lock(Check check) {
        SignatureSpans x = Check.signed();
        for (int i = 0; i < 20; i++) {
            int field = i;
            x.change(0, field);
            check.answers("not locked: " + i, 1, () -> x.since(0, field, 2));
            check.answers("lock " + i, 1, () -> x.lock(0, field));
            check.answers("locked: " + i, 0, () -> x.since(0, field, 2));
            check.answers("lock " + i + " again", 0, () -> x.lock(0, field));
        }
        int[] wrong = {-1, 20, 32, Integer.MAX_VALUE, Integer.MIN_VALUE};
        for (int w : wrong) {
            check.refuses("lock(0, " + w + ")", ILLEGAL, () -> x.lock(0, w));
            check.refuses("lock(1, " + w + ")", NONE, () -> x.lock(1, w));
        }
        check.refuses("lock(-1, 0)", NONE, () -> x.lock(-1, 0));

        SignatureSpans y = changed();
        y.lock(0, 4);
        allowed(check, "another field is locked", y, 15);
        y.lock(0, 5);
        allowed(check, "kind 0 alone is locked", y, 14);
        y.place(8, 9);
        y.sign(1, true, 0);
        y.change(0, 5);
        check.answers("another signature locks nothing", 1, () -> y.since(1, 0, 2));
        check.answers("and locks for itself", 1, () -> y.lock(1, 5));
    }

    private static void certify(Check check) {
        SignatureSpans x = Check.signed();
        x.place(8, 9);
        x.sign(1, true, 50);
        x.chain(1, 50, 50);
        int[] wrong = {0, 4, -1, Integer.MAX_VALUE, Integer.MIN_VALUE};
        for (int w : wrong) {
            check.refuses("certify(0, " + w + ")", ILLEGAL, () -> x.certify(0, w));
            check.refuses("certify(1, " + w + ")", ILLEGAL, () -> x.certify(1, w));
            check.refuses("certify(2, " + w + ")", NONE, () -> x.certify(2, w));
        }
        check.refuses("certify(-1, 1)", NONE, () -> x.certify(-1, 1));
        check.answers("certify(1, 1)", 0, () -> x.certify(1, 1));
        x.change(2, 2);
        check.answers("signature 1 does not certify", 1, () -> x.holds(1));
        check.answers("0 does not yet", 1, () -> x.holds(0));
        check.answers("certify(0, 3)", 1, () -> x.certify(0, 3));
        check.answers("0 does", 8, () -> x.holds(0));
        check.answers("certify(0, 1)", 0, () -> x.certify(0, 1));
        check.answers("certify(0, 3) again", 0, () -> x.certify(0, 3));
        check.answers("certify(1, 2)", 0, () -> x.certify(1, 2));
        check.answers("level 3 stays", 1, () -> x.since(0, 0, 2));
        check.refuses("certify(0, 4) when it does", ILLEGAL, () -> x.certify(0, 4));
    }

    private static void levels(Check check) {
        int[] due = {15, 0, 1, 3};
        for (int level = 1; level <= 3; level++) {
            SignatureSpans x = changed();
            int told = level;
            check.answers("certify with " + level, 1, () -> x.certify(0, told));
            allowed(check, "level " + level, x, due[level]);
        }
        SignatureSpans y = Check.signed();
        y.certify(0, 1);
        check.answers("level 1 without a change", 1, () -> y.holds(0));
        y.place(8, 9);
        y.sign(1, true, 0);
        check.answers("level 1 allows no signature", 8, () -> y.holds(0));
    }

    private static void together(Check check) {
        SignatureSpans x = changed();
        x.allow(0, 14);
        x.certify(0, 3);
        allowed(check, "kinds and level", x, 2);
        x.allow(0, 15);
        allowed(check, "level alone", x, 3);
        x.lock(0, 5);
        allowed(check, "level and lock", x, 2);
    }

    /** Each set of kinds with each level (0 for none) and with a lock or none. */
    private static void everyMixture(Check check) {
        int[] ofLevel = {15, 0, 1, 3};
        for (int kinds = 0; kinds < 16; kinds++) {
            for (int level = 0; level <= 3; level++) {
                for (int locks = 0; locks < 2; locks++) {
                    SignatureSpans x = changed();
                    x.allow(0, kinds);
                    if (level > 0) {
                        x.certify(0, level);
                    }
                    if (locks == 1) {
                        x.lock(0, 5);
                    }
                    int due = kinds & ofLevel[level] & (locks == 1 ? 14 : 15);
                    allowed(check, "kinds " + kinds + ", level " + level + ", locks " + locks, x, due);
                }
            }
        }
    }

    /** A signature is a change of kind 0 of its field, so a lock or no kind 0 refuses it, too. */
    private static void signatureOfLockedField(Check check) {
        for (int i = 0; i < 4; i++) {
            SignatureSpans x = Check.signed();
            x.place(8, 9);
            x.lock(0, 7);
            x.sign(i == 0 ? 7 : 8, true, 0);
            if (i == 2) {
                x.lock(0, 8);
            }
            if (i == 3) {
                x.allow(0, 14);
            }
            check.answers("signature, way " + i, i == 1 ? 1 : 0, () -> x.since(0, 0, 2));
            check.answers("holds, way " + i, i == 1 ? 1 : 8, () -> x.holds(0));
        }
    }

    /** Signature 0 alone can certify, and once, whichever level comes first. */
    private static void oneCertifies(Check check) {
        int[] ofLevel = {15, 0, 1, 3};
        for (int first = 1; first <= 3; first++) {
            for (int second = 1; second <= 3; second++) {
                SignatureSpans x = changed();
                for (int i = 1; i < 8; i++) {
                    int s = i;
                    int level = second;
                    x.place(6 + s, 7 + s);
                    x.sign(s, true, 0);
                    check.answers("signature " + s + " does not", 0, () -> x.certify(s, level));
                    x.change(2, 2);
                    check.answers("so it allows all", 1, () -> x.since(s, 0, 2));
                }
                int one = first;
                int other = second;
                check.answers("level " + first, 1, () -> x.certify(0, one));
                check.answers("then level " + second, 0, () -> x.certify(0, other));
                for (int i = 0; i < 4; i++) {
                    int n = i;
                    check.answers("kind " + i + " by level " + first, ofLevel[first] >> i & 1, () -> x.since(0, n, 2));
                }
            }
        }
    }

    private static void highBits(Check check) {
        SignatureSpans x = changed();
        for (int i = 4; i < 32; i++) {
            int bit = 1 << i;
            x.allow(0, 9 | bit);
            check.answers("bit " + i + " is none", 9, () -> x.allow(0, bit));
            check.answers("nor alone", 0, () -> x.allow(0, 0));
        }
    }
}
