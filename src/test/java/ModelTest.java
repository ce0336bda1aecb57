import java.util.Random;

/** All promises: runs of 512 mixed calls, wrong ones among them, beside the reference. */
public final class ModelTest {
    private static final int RUNS = 4000;
    private static final int CALLS = 512;
    private static final int[] ODD_INTS = {-2, -1, 20, 32, 1 << 16, Integer.MAX_VALUE, Integer.MIN_VALUE};
    private static final long[] ODD_LONGS = {
        -2, -1, 1500, 1L << 31, 1L << 32, (1L << 32) + 1, Long.MAX_VALUE, Long.MIN_VALUE
    };

    private final Check check;
    private final Random random;
    private final SignatureSpans x = new SignatureSpans();
    private final Reference r = new Reference();
    private int size;
    private int calls;

    private ModelTest(Check check, long seed) {
        this.check = check;
        this.random = new Random(seed);
    }

    public static void main(String[] args) {
        Check check = new Check("ModelTest");
        for (int seed = 0; seed < RUNS; seed++) {
            new ModelTest(check, seed).run(seed);
        }
        check.end();
    }

    private void run(int seed) {
        int adds = random.nextInt(220);
        while (calls < CALLS) {
            String where = "seed " + seed + ", call " + calls;
            if (calls < adds) {
                addByte(where);
            } else {
                anyCall(where, random.nextInt(20));
            }
        }
    }

    private int some(int bound) {
        return random.nextInt(40) == 0 ? ODD_INTS[random.nextInt(ODD_INTS.length)] : random.nextInt(bound);
    }

    private long someLong(int bound) {
        return random.nextInt(40) == 0 ? ODD_LONGS[random.nextInt(ODD_LONGS.length)] : random.nextInt(bound);
    }

    private void same(String where, Check.Call got, Check.Call due) {
        calls++;
        check.same(where, Check.outcome(due), Check.outcome(got));
    }

    private void addByte(String where) {
        byte b = (byte) random.nextInt();
        same(where + " add", () -> x.add(b), () -> r.add(b));
        size++;
    }

    private void anyCall(String where, int which) {
        int s = some(random.nextInt(3) == 0 ? 9 : 3);
        switch (which) {
            case 0 -> addByte(where);
            case 1 -> pokeByte(where);
            case 2 -> makePlace(where);
            case 3 -> makeSignature(where);
            case 4 -> tellSpan(where, s);
            case 5 -> addRow(where, s);
            case 6 -> addChange(where);
            case 7 -> setAllowed(where, s);
            case 8 -> makeStamp(where);
            case 9, 10 -> same(where + " holds " + s, () -> x.holds(s), () -> r.holds(s));
            case 11 -> same(where + " behind " + s, () -> x.behind(s), () -> r.behind(s));
            default -> anyLook(where, which, s);
        }
    }

    private void anyLook(String where, int which, int s) {
        int i = some(which < 14 ? 3 : which < 16 ? 8 : which < 18 ? 33 : 11) - (which >= 14 && which < 16 ? 1 : 0);
        int what = some(5);
        if (which < 14) {
            same(where + " span", () -> x.span(s, i, what), () -> r.span(s, i, what));
        } else if (which < 16) {
            same(where + " since", () -> x.since(s, i, what), () -> r.since(s, i, what));
        } else if (which < 18) {
            same(where + " digest", () -> x.digest(s, i), () -> r.digest(s, i));
        } else {
            same(where + " stamped", () -> x.stamped(i, what), () -> r.stamped(i, what));
        }
    }

    /** A mask of 0 or a poke twice keeps some signatures holding. */
    private void pokeByte(String where) {
        long i = someLong(size + 1);
        int mask = random.nextBoolean() ? 0 : random.nextInt();
        same(where + " poke", () -> x.poke(i, mask), () -> r.poke(i, mask));
        if (calls < CALLS && random.nextInt(4) != 0) {
            same(where + " poke back", () -> x.poke(i, mask), () -> r.poke(i, mask));
        }
    }

    private void makePlace(String where) {
        long from = someLong(size + 1);
        long to = random.nextInt(20) == 0 ? someLong(size + 3) : from + random.nextInt(5);
        same(where + " place", () -> x.place(from, to), () -> r.place(from, to));
    }

    private void makeSignature(String where) {
        int field = some(21);
        boolean verdict = random.nextInt(5) != 0;
        long time = someLong(30);
        same(where + " sign", () -> x.sign(field, verdict, time), () -> r.sign(field, verdict, time));
    }

    /** Mostly told as it is, so that the later numbers of holds are met too. */
    private void tellSpan(String where, int s) {
        int i = some(2);
        boolean keep = random.nextInt(4) != 0 && s >= 0 && !Check.outcome(() -> r.span(s, 0, 0)).startsWith("No");
        boolean known = keep && (i == 0 || i == 1);
        long from = known ? r.span(s, i, 0) : someLong(6);
        long to = known ? r.span(s, i, 1) : someLong(6);
        same(where + " tell", () -> {
            x.tell(s, i, from, to);
            return 0;
        }, () -> r.tell(s, i, from, to));
    }

    private void addRow(String where, int s) {
        long from = random.nextInt(8) == 0 ? someLong(30) : 0;
        long to = random.nextInt(8) == 0 ? someLong(30) : 30;
        same(where + " chain", () -> x.chain(s, from, to), () -> r.chain(s, from, to));
    }

    private void addChange(String where) {
        int kind = some(random.nextInt(4) == 0 ? 5 : 2);
        int field = some(21);
        same(where + " change", () -> x.change(kind, field), () -> r.change(kind, field));
    }

    private void setAllowed(String where, int s) {
        int kinds = random.nextInt(3) == 0 ? random.nextInt() : -1;
        int field = some(21);
        int level = 3 - some(4);
        switch (random.nextInt(8)) {
            case 0 -> same(where + " certify", () -> x.certify(s, level), () -> r.certify(s, level));
            case 1, 2 -> same(where + " lock", () -> x.lock(s, field), () -> r.lock(s, field));
            default -> same(where + " allow", () -> x.allow(s, kinds), () -> r.allow(s, kinds));
        }
    }

    private void makeStamp(String where) {
        long time = someLong(6);
        same(where + " stamp", () -> x.stamp(time), () -> r.stamp(time));
    }
}
