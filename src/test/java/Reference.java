import java.io.ByteArrayOutputStream;
import java.security.MessageDigest;
import java.security.NoSuchAlgorithmException;
import java.util.ArrayList;
import java.util.Arrays;
import java.util.Comparator;
import java.util.HashSet;
import java.util.List;
import java.util.NoSuchElementException;
import java.util.Set;

/**
 * The document once more, written to be compared with: it keeps the signed
 * bytes themselves, and sorts, where the class keeps digests and inserts.
 */
final class Reference {
    private record Place(int from, int to) { }

    private record Change(int kind, int field) { }

    private record Stamp(int number, long time, byte[] bytes) { }

    private static final class Signature {
        Place place;
        int field;
        boolean verdict;
        long time;
        int end;
        byte[] bytes;
        int first;
        int kinds = 15;
        int level;
        final Set<Integer> locks = new HashSet<>();
        final long[][] spans = new long[2][];
        final List<long[]> rows = new ArrayList<>();
    }

    private byte[] file = new byte[0];
    private final List<Place> places = new ArrayList<>();
    private final List<Place> free = new ArrayList<>();
    private final List<Signature> signatures = new ArrayList<>();
    private final List<Change> changes = new ArrayList<>();
    private final List<Stamp> stamps = new ArrayList<>();

    int add(byte b) {
        room(file.length < 1500);
        file = Arrays.copyOf(file, file.length + 1);
        file[file.length - 1] = b;
        return file.length;
    }

    int poke(long i, int mask) {
        index(0 <= i && i < file.length);
        file[(int) i] ^= (byte) mask;
        return Byte.toUnsignedInt(file[(int) i]);
    }

    int place(long from, long to) {
        legal(0 <= from && from < to && to <= file.length);
        for (Place p : places) {
            legal(to <= p.from || p.to <= from);
        }
        room(places.size() < 8);
        Place made = new Place((int) from, (int) to);
        places.add(made);
        free.add(made);
        return places.size() - 1;
    }

    int sign(int field, boolean verdict, long time) {
        legal(0 <= field && field <= 19 && time >= 0);
        if (free.isEmpty() || signatures.stream().anyMatch(s -> s.field == field)) {
            throw new IllegalStateException();
        }
        room(signatures.size() < 8);
        if (!signatures.isEmpty()) {
            room(changes.size() < 40);
            changes.add(new Change(0, field));
        }
        Signature s = new Signature();
        s.place = free.remove(free.size() - 1);
        s.field = field;
        s.verdict = verdict;
        s.time = time;
        s.end = file.length;
        s.spans[0] = new long[] {0, s.place.from};
        s.spans[1] = new long[] {s.place.to, s.end};
        s.bytes = covered(s);
        s.first = changes.size();
        signatures.add(s);
        return signatures.size() - 1;
    }

    int holds(int signature) {
        Signature s = at(signature);
        boolean[] faults = {
            s.spans[0][0] != 0,
            s.spans[0][1] != s.place.from || s.spans[1][0] != s.place.to,
            s.spans[1][1] != s.end,
            !Arrays.equals(s.bytes, covered(s)),
            !s.verdict,
            s.rows.isEmpty() || !s.rows.stream().allMatch(r -> r[0] <= s.time && s.time <= r[1]),
            !since(s).stream().allMatch(c -> allows(s, c)),
        };
        for (int i = 0; i < faults.length; i++) {
            if (faults[i]) {
                return i + 2;
            }
        }
        return 1;
    }

    long span(int signature, int i, int side) {
        Signature s = at(signature);
        index((i == 0 || i == 1) && (side == 0 || side == 1));
        return s.spans[i][side];
    }

    int tell(int signature, int i, long from, long to) {
        Signature s = at(signature);
        index(i == 0 || i == 1);
        s.spans[i] = new long[] {from, to};
        return 0;
    }

    int chain(int signature, long from, long to) {
        Signature s = at(signature);
        legal(from <= to);
        room(s.rows.size() < 4);
        s.rows.add(new long[] {from, to});
        return s.rows.size();
    }

    int change(int kind, int field) {
        legal(0 <= kind && kind <= 3 && 0 <= field && field <= 19);
        room(changes.size() < 40);
        changes.add(new Change(kind, field));
        return changes.size();
    }

    int allow(int signature, int kinds) {
        Signature s = at(signature);
        int before = s.kinds;
        s.kinds = kinds & 15;
        return before;
    }

    int lock(int signature, int field) {
        Signature s = at(signature);
        legal(0 <= field && field <= 19);
        return s.locks.add(field) ? 1 : 0;
    }

    int certify(int signature, int level) {
        Signature s = at(signature);
        legal(1 <= level && level <= 3);
        if (signature != 0 || s.level > 0) {
            return 0;
        }
        s.level = level;
        return 1;
    }

    int since(int signature, int i, int what) {
        Signature s = at(signature);
        List<Change> all = since(s);
        if (i == -1) {
            return all.size();
        }
        index(0 <= i && i < all.size() && 0 <= what && what <= 2);
        Change c = all.get(i);
        return what == 0 ? c.kind : what == 1 ? c.field : allows(s, c) ? 1 : 0;
    }

    byte digest(int signature, int i) {
        Signature s = at(signature);
        if (i < 0 || i > 31) {
            throw new ArrayIndexOutOfBoundsException();
        }
        try {
            return MessageDigest.getInstance("SHA-256").digest(s.bytes)[i];
        } catch (NoSuchAlgorithmException e) {
            throw new AssertionError(e);
        }
    }

    long behind(int signature) {
        return file.length - at(signature).end;
    }

    int stamp(long time) {
        legal(time >= 0);
        room(stamps.size() < 10);
        stamps.add(new Stamp(stamps.size(), time, file.clone()));
        return stamps.size() - 1;
    }

    long stamped(int i, int what) {
        if (i == -1) {
            return stamps.size();
        }
        index(0 <= i && i < stamps.size() && 0 <= what && what <= 3);
        List<Stamp> sorted = new ArrayList<>(stamps);
        sorted.sort(Comparator.comparingLong(Stamp::time).thenComparingInt(Stamp::number));
        Stamp s = sorted.get(i);
        boolean good = Arrays.equals(s.bytes, Arrays.copyOf(file, s.bytes.length));
        return what == 0 ? s.number : what == 1 ? s.time : what == 2 ? s.bytes.length : good ? 1 : 0;
    }

    private byte[] covered(Signature s) {
        ByteArrayOutputStream out = new ByteArrayOutputStream();
        out.write(file, 0, s.place.from);
        out.write(file, s.place.to, s.end - s.place.to);
        return out.toByteArray();
    }

    private List<Change> since(Signature s) {
        return changes.subList(s.first, changes.size());
    }

    private static boolean allows(Signature s, Change c) {
        List<Set<Integer>> ofLevel = List.of(Set.of(0, 1, 2, 3), Set.of(), Set.of(0), Set.of(0, 1));
        boolean lockedOut = c.kind == 0 && s.locks.contains(c.field);
        return (s.kinds & 1 << c.kind) != 0 && ofLevel.get(s.level).contains(c.kind) && !lockedOut;
    }

    private Signature at(int signature) {
        if (signature < 0 || signature >= signatures.size()) {
            throw new NoSuchElementException();
        }
        return signatures.get(signature);
    }

    private static void legal(boolean so) {
        if (!so) {
            throw new IllegalArgumentException();
        }
    }

    private static void index(boolean so) {
        if (!so) {
            throw new IndexOutOfBoundsException();
        }
    }

    private static void room(boolean so) {
        if (!so) {
            throw new UnsupportedOperationException();
        }
    }
}
