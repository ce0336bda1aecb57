import java.util.NoSuchElementException;

/**
 * Signatures over a file that grows, and time stamps over the whole of it, as
 * promises 1 to 18 of the document tell them.
 *
 * All rows are made with the object and used again, so that no call makes
 * anything but the exception that it throws.
 */
public final class SignatureSpans {
    private static final int MOST_BYTES = 1500;
    private static final int MOST_PLACES = 8;
    private static final int MOST_SIGNATURES = 8;
    private static final int MOST_CHAIN_ROWS = 4;
    private static final int MOST_CHANGES = 40;
    private static final int MOST_STAMPS = 10;
    private static final int FIELDS = 20;
    private static final int KINDS = 4;
    private static final int ALL_KINDS = 15;
    private static final int SPANS = 2;
    private static final int HIGHEST_LEVEL = 3;
    private static final int DIGEST_BYTES = 32;

    private static final int KIND_FILLED = 0;
    private static final int KIND_NOTE = 1;

    private static final int HOLDS = 1;
    private static final int FAULT_BEGIN = 2;
    private static final int FAULT_PLACE = 3;
    private static final int FAULT_END = 4;
    private static final int FAULT_DIGEST = 5;
    private static final int FAULT_VERDICT = 6;
    private static final int FAULT_CHAIN = 7;
    private static final int FAULT_CHANGE = 8;

    private final byte[] file;
    private int size;
    private final Place[] places;
    private int placeCount;
    private final Signature[] signatures;
    private int signatureCount;
    private final int[] changeKinds;
    private final int[] changeFields;
    private int changeCount;
    private final Stamp[] stamps;
    private final int[] stampOrder;
    private int stampCount;
    private final Sha256 hasher;

    public SignatureSpans() {
        file = new byte[MOST_BYTES];
        places = new Place[MOST_PLACES];
        for (int i = 0; i < MOST_PLACES; i++) {
            places[i] = new Place();
        }
        signatures = new Signature[MOST_SIGNATURES];
        for (int i = 0; i < MOST_SIGNATURES; i++) {
            signatures[i] = new Signature();
        }
        changeKinds = new int[MOST_CHANGES];
        changeFields = new int[MOST_CHANGES];
        stamps = new Stamp[MOST_STAMPS];
        for (int i = 0; i < MOST_STAMPS; i++) {
            stamps[i] = new Stamp();
        }
        stampOrder = new int[MOST_STAMPS];
        hasher = new Sha256();
    }

    public int add(byte b) throws UnsupportedOperationException {
        if (size >= MOST_BYTES) {
            throw new UnsupportedOperationException("the file is full");
        }
        file[size] = b;
        size++;
        return size;
    }

    public int poke(long i, int mask) throws IndexOutOfBoundsException {
        if (i < 0 || i >= size) {
            throw new IndexOutOfBoundsException("the file has no such byte");
        }
        int at = (int) i;
        file[at] = (byte) (file[at] ^ mask);
        return file[at] & 255;
    }

    public int place(long from, long to) throws IllegalArgumentException, UnsupportedOperationException {
        if (from < 0 || to > size || from >= to) {
            throw new IllegalArgumentException("no bytes of the file");
        }
        if (sharesByte(from, to)) {
            throw new IllegalArgumentException("another place has a byte of it");
        }
        if (placeCount >= MOST_PLACES) {
            throw new UnsupportedOperationException("no room for a place");
        }
        Place made = places[placeCount];
        made.from = (int) from;
        made.to = (int) to;
        placeCount++;
        return placeCount - 1;
    }

    public int sign(int field, boolean verdict, long time)
            throws IllegalArgumentException, IllegalStateException, UnsupportedOperationException {
        if (!isField(field) || time < 0) {
            throw new IllegalArgumentException("no such field or time");
        }
        int free = latestFreePlace();
        if (free < 0 || isSigned(field)) {
            throw new IllegalStateException("no place is left, or the field has a signature");
        }
        boolean isChange = signatureCount > 0;
        if (signatureCount >= MOST_SIGNATURES || (isChange && changeCount >= MOST_CHANGES)) {
            throw new UnsupportedOperationException("no room for a signature or its change");
        }
        if (isChange) {
            keepChange(KIND_FILLED, field);
        }
        Place left = places[free];
        left.taken = true;
        Signature made = signatures[signatureCount];
        made.field = field;
        made.good = verdict;
        made.time = time;
        made.changesBefore = changeCount;
        made.cover(left, size);
        hashAllBut(left.from, left.to, size);
        hasher.copyResult(made.digest);
        signatureCount++;
        return signatureCount - 1;
    }

    public int holds(int signature) throws NoSuchElementException {
        Signature s = signatureAt(signature);
        int fault = s.spanFault();
        if (fault != HOLDS) {
            return fault;
        }
        hashAllBut(s.placeFrom, s.placeTo, s.end);
        if (!hasher.hasResult(s.digest)) {
            return FAULT_DIGEST;
        }
        if (!s.good) {
            return FAULT_VERDICT;
        }
        if (!s.chainHasTime()) {
            return FAULT_CHAIN;
        }
        return allowsAllSince(s) ? HOLDS : FAULT_CHANGE;
    }

    public long span(int signature, int i, int side) throws NoSuchElementException, IndexOutOfBoundsException {
        Signature s = signatureAt(signature);
        if (!isSpan(i) || side < 0 || side > 1) {
            throw new IndexOutOfBoundsException("no such span or side");
        }
        return side == 0 ? s.spanFrom[i] : s.spanTo[i];
    }

    public void tell(int signature, int i, long from, long to)
            throws NoSuchElementException, IndexOutOfBoundsException {
        Signature s = signatureAt(signature);
        if (!isSpan(i)) {
            throw new IndexOutOfBoundsException("no such span");
        }
        s.spanFrom[i] = from;
        s.spanTo[i] = to;
    }

    public int chain(int signature, long from, long to)
            throws NoSuchElementException, IllegalArgumentException, UnsupportedOperationException {
        Signature s = signatureAt(signature);
        if (to < from) {
            throw new IllegalArgumentException("the row ends before it begins");
        }
        if (s.rowCount >= MOST_CHAIN_ROWS) {
            throw new UnsupportedOperationException("no room for a row");
        }
        s.rowFrom[s.rowCount] = from;
        s.rowTo[s.rowCount] = to;
        s.rowCount++;
        return s.rowCount;
    }

    public int change(int kind, int field) throws IllegalArgumentException, UnsupportedOperationException {
        if (kind < 0 || kind >= KINDS || !isField(field)) {
            throw new IllegalArgumentException("no such kind or field");
        }
        if (changeCount >= MOST_CHANGES) {
            throw new UnsupportedOperationException("no room for a change");
        }
        keepChange(kind, field);
        return changeCount;
    }

    public int allow(int signature, int kinds) throws NoSuchElementException {
        Signature s = signatureAt(signature);
        int before = s.allowedKinds;
        s.allowedKinds = kinds & ALL_KINDS;
        return before;
    }

    public int lock(int signature, int field) throws NoSuchElementException, IllegalArgumentException {
        Signature s = signatureAt(signature);
        if (!isField(field)) {
            throw new IllegalArgumentException("no such field");
        }
        if (s.locked[field]) {
            return 0;
        }
        s.locked[field] = true;
        return 1;
    }

    public int certify(int signature, int level) throws NoSuchElementException, IllegalArgumentException {
        Signature s = signatureAt(signature);
        if (level < 1 || level > HIGHEST_LEVEL) {
            throw new IllegalArgumentException("no such level");
        }
        if (signature != 0 || s.level != 0) {
            return 0;
        }
        s.level = level;
        return 1;
    }

    public int since(int signature, int i, int what) throws NoSuchElementException, IndexOutOfBoundsException {
        Signature s = signatureAt(signature);
        int count = changeCount - s.changesBefore;
        if (i == -1) {
            return count;
        }
        if (i < 0 || i >= count || what < 0 || what > 2) {
            throw new IndexOutOfBoundsException("no such change, or nothing such of it");
        }
        int at = s.changesBefore + i;
        if (what == 0) {
            return changeKinds[at];
        }
        if (what == 1) {
            return changeFields[at];
        }
        return s.permits(changeKinds[at], changeFields[at]) ? 1 : 0;
    }

    public byte digest(int signature, int i) throws NoSuchElementException, ArrayIndexOutOfBoundsException {
        Signature s = signatureAt(signature);
        if (i < 0 || i >= DIGEST_BYTES) {
            // Promise 15 names this very class, and rule 6 has a call throw what the document says.
            throw new ArrayIndexOutOfBoundsException("a digest has bytes 0 to 31");
        }
        return s.digest[i];
    }

    public long behind(int signature) throws NoSuchElementException {
        return size - signatureAt(signature).end;
    }

    public int stamp(long time) throws IllegalArgumentException, UnsupportedOperationException {
        if (time < 0) {
            throw new IllegalArgumentException("no such time");
        }
        if (stampCount >= MOST_STAMPS) {
            throw new UnsupportedOperationException("no room for a stamp");
        }
        Stamp made = stamps[stampCount];
        made.time = time;
        made.size = size;
        hashAllBut(size, size, size);
        hasher.copyResult(made.digest);
        putInOrder(stampCount, time);
        stampCount++;
        return stampCount - 1;
    }

    public long stamped(int i, int what) throws IndexOutOfBoundsException {
        if (i == -1) {
            return stampCount;
        }
        if (i < 0 || i >= stampCount || what < 0 || what > 3) {
            throw new IndexOutOfBoundsException("no such stamp, or nothing such of it");
        }
        int number = stampOrder[i];
        Stamp s = stamps[number];
        if (what == 0) {
            return number;
        }
        if (what == 1) {
            return s.time;
        }
        if (what == 2) {
            return s.size;
        }
        hashAllBut(s.size, s.size, s.size);
        return hasher.hasResult(s.digest) ? 1 : 0;
    }

    private static boolean isField(int field) {
        return field >= 0 && field < FIELDS;
    }

    private static boolean isSpan(int i) {
        return i >= 0 && i < SPANS;
    }

    private Signature signatureAt(int number) throws NoSuchElementException {
        if (number < 0 || number >= signatureCount) {
            throw new NoSuchElementException("no such signature");
        }
        return signatures[number];
    }

    private boolean sharesByte(long from, long to) {
        for (int i = 0; i < placeCount; i++) {
            if (from < places[i].to && places[i].from < to) {
                return true;
            }
        }
        return false;
    }

    private int latestFreePlace() {
        for (int i = placeCount - 1; i >= 0; i--) {
            if (!places[i].taken) {
                return i;
            }
        }
        return -1;
    }

    private boolean isSigned(int field) {
        for (int i = 0; i < signatureCount; i++) {
            if (signatures[i].field == field) {
                return true;
            }
        }
        return false;
    }

    /** The caller has seen that there is room. */
    private void keepChange(int kind, int field) {
        changeKinds[changeCount] = kind;
        changeFields[changeCount] = field;
        changeCount++;
    }

    private boolean allowsAllSince(Signature s) {
        for (int i = s.changesBefore; i < changeCount; i++) {
            if (!s.permits(changeKinds[i], changeFields[i])) {
                return false;
            }
        }
        return true;
    }

    /** Stops behind stamps of the same time, so that those stay as they came. */
    private void putInOrder(int number, long time) {
        int at = stampCount;
        while (at > 0 && stamps[stampOrder[at - 1]].time > time) {
            stampOrder[at] = stampOrder[at - 1];
            at--;
        }
        stampOrder[at] = number;
    }

    /** The digest of the file's bytes before end, but those from one to before another one. */
    private void hashAllBut(int from, int to, int end) {
        hasher.begin();
        hasher.take(file, 0, from);
        hasher.take(file, to, end);
        hasher.finish();
    }

    private static final class Place {
        int from;
        int to;
        boolean taken;
    }

    private static final class Stamp {
        long time;
        int size;
        final byte[] digest = new byte[DIGEST_BYTES];
    }

    private static final class Signature {
        int field;
        boolean good;
        long time;
        int placeFrom;
        int placeTo;
        int end;
        int changesBefore;
        int allowedKinds = ALL_KINDS;
        int level;
        int rowCount;
        final long[] spanFrom = new long[SPANS];
        final long[] spanTo = new long[SPANS];
        final long[] rowFrom = new long[MOST_CHAIN_ROWS];
        final long[] rowTo = new long[MOST_CHAIN_ROWS];
        final boolean[] locked = new boolean[FIELDS];
        final byte[] digest = new byte[DIGEST_BYTES];

        void cover(Place left, int fileSize) {
            placeFrom = left.from;
            placeTo = left.to;
            end = fileSize;
            spanFrom[0] = 0;
            spanTo[0] = placeFrom;
            spanFrom[1] = placeTo;
            spanTo[1] = end;
        }

        int spanFault() {
            if (spanFrom[0] != 0) {
                return FAULT_BEGIN;
            }
            if (spanTo[0] != placeFrom || spanFrom[1] != placeTo) {
                return FAULT_PLACE;
            }
            return spanTo[1] == end ? HOLDS : FAULT_END;
        }

        boolean chainHasTime() {
            for (int i = 0; i < rowCount; i++) {
                if (time < rowFrom[i] || time > rowTo[i]) {
                    return false;
                }
            }
            return rowCount > 0;
        }

        /** The caller has seen that kind and changedField are such. */
        boolean permits(int kind, int changedField) {
            if (((allowedKinds >> kind) & 1) == 0 || !levelPermits(kind)) {
                return false;
            }
            return kind != KIND_FILLED || !locked[changedField];
        }

        boolean levelPermits(int kind) {
            switch (level) {
                case 1:
                    return false;
                case 2:
                    return kind == KIND_FILLED;
                case 3:
                    return kind == KIND_FILLED || kind == KIND_NOTE;
                default:
                    return true;
            }
        }
    }

    /** SHA-256 of FIPS 180-4, used again for every digest. */
    private static final class Sha256 {
        private static final int BLOCK_BYTES = 64;
        private static final int LENGTH_AT = 56;
        private static final int ROUNDS = 64;
        private static final int WORDS = 8;

        private static final int[] START = {
            0x6a09e667, 0xbb67ae85, 0x3c6ef372, 0xa54ff53a, 0x510e527f, 0x9b05688c, 0x1f83d9ab, 0x5be0cd19
        };

        private static final int[] ROUND_KEYS = {
            0x428a2f98, 0x71374491, 0xb5c0fbcf, 0xe9b5dba5, 0x3956c25b, 0x59f111f1, 0x923f82a4, 0xab1c5ed5,
            0xd807aa98, 0x12835b01, 0x243185be, 0x550c7dc3, 0x72be5d74, 0x80deb1fe, 0x9bdc06a7, 0xc19bf174,
            0xe49b69c1, 0xefbe4786, 0x0fc19dc6, 0x240ca1cc, 0x2de92c6f, 0x4a7484aa, 0x5cb0a9dc, 0x76f988da,
            0x983e5152, 0xa831c66d, 0xb00327c8, 0xbf597fc7, 0xc6e00bf3, 0xd5a79147, 0x06ca6351, 0x14292967,
            0x27b70a85, 0x2e1b2138, 0x4d2c6dfc, 0x53380d13, 0x650a7354, 0x766a0abb, 0x81c2c92e, 0x92722c85,
            0xa2bfe8a1, 0xa81a664b, 0xc24b8b70, 0xc76c51a3, 0xd192e819, 0xd6990624, 0xf40e3585, 0x106aa070,
            0x19a4c116, 0x1e376c08, 0x2748774c, 0x34b0bcb5, 0x391c0cb3, 0x4ed8aa4a, 0x5b9cca4f, 0x682e6ff3,
            0x748f82ee, 0x78a5636f, 0x84c87814, 0x8cc70208, 0x90befffa, 0xa4506ceb, 0xbef9a3f7, 0xc67178f2
        };

        final int[] state = new int[WORDS];
        final int[] schedule = new int[ROUNDS];
        final byte[] block = new byte[BLOCK_BYTES];
        final byte[] result = new byte[DIGEST_BYTES];
        int filled;
        long taken;

        void begin() {
            System.arraycopy(START, 0, state, 0, WORDS);
            filled = 0;
            taken = 0;
        }

        void take(byte[] source, int from, int to) {
            for (int i = from; i < to; i++) {
                push(source[i]);
                taken++;
            }
        }

        void finish() {
            long bits = taken * 8;
            push((byte) 128);
            for (int i = 0; i < BLOCK_BYTES && filled != LENGTH_AT; i++) {
                push((byte) 0);
            }
            for (int shift = 56; shift >= 0; shift -= 8) {
                push((byte) (bits >>> shift));
            }
            for (int i = 0; i < DIGEST_BYTES; i++) {
                result[i] = (byte) (state[i / 4] >>> (24 - (i % 4) * 8));
            }
        }

        void copyResult(byte[] into) {
            System.arraycopy(result, 0, into, 0, DIGEST_BYTES);
        }

        boolean hasResult(byte[] due) {
            for (int i = 0; i < DIGEST_BYTES; i++) {
                if (result[i] != due[i]) {
                    return false;
                }
            }
            return true;
        }

        private void push(byte b) {
            block[filled] = b;
            filled++;
            if (filled == BLOCK_BYTES) {
                fillSchedule();
                mix();
                filled = 0;
            }
        }

        private void fillSchedule() {
            for (int i = 0; i < 16; i++) {
                int at = i * 4;
                schedule[i] = ((block[at] & 255) << 24) | ((block[at + 1] & 255) << 16)
                        | ((block[at + 2] & 255) << 8) | (block[at + 3] & 255);
            }
            for (int i = 16; i < ROUNDS; i++) {
                int early = schedule[i - 15];
                int late = schedule[i - 2];
                int s0 = turn(early, 7) ^ turn(early, 18) ^ (early >>> 3);
                int s1 = turn(late, 17) ^ turn(late, 19) ^ (late >>> 10);
                schedule[i] = schedule[i - 16] + s0 + schedule[i - 7] + s1;
            }
        }

        private void mix() {
            int a = state[0];
            int b = state[1];
            int c = state[2];
            int d = state[3];
            int e = state[4];
            int f = state[5];
            int g = state[6];
            int h = state[7];
            for (int i = 0; i < ROUNDS; i++) {
                int choice = (e & f) ^ (~e & g);
                int majority = (a & b) ^ (a & c) ^ (b & c);
                int t1 = h + (turn(e, 6) ^ turn(e, 11) ^ turn(e, 25)) + choice + ROUND_KEYS[i] + schedule[i];
                int t2 = (turn(a, 2) ^ turn(a, 13) ^ turn(a, 22)) + majority;
                h = g;
                g = f;
                f = e;
                e = d + t1;
                d = c;
                c = b;
                b = a;
                a = t1 + t2;
            }
            state[0] += a;
            state[1] += b;
            state[2] += c;
            state[3] += d;
            state[4] += e;
            state[5] += f;
            state[6] += g;
            state[7] += h;
        }

        private static int turn(int word, int by) {
            return (word >>> by) | (word << (32 - by));
        }
    }
}
