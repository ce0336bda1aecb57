import java.util.ArrayList;
import java.util.List;

/**
 * Two objects with the same run behind them, one of which gets a call more: if
 * that call changes nothing, every answer afterwards is the same of both.
 *
 * Every answer is more than an object's 512 calls can ask for, so they are
 * asked for in several lines, each of a new pair.
 */
final class Twins {
    private static final int MOST_CALLS = 512;
    private static final int LINE = 120;
    private static final int SIGNATURES = 8;
    private static final int BYTES = 40;
    private static final int FREE_BYTES = 26;

    private record Probe(String name, Run.Step step) { }

    private static final List<List<Probe>> LINES = lines();

    private Twins() {
    }

    /** The call throws just this, and changes nothing. */
    static void refused(Check check, String name, Run before, Class<? extends RuntimeException> due, Run.Step call) {
        withinCalls(before);
        same(check, name, before, due.getSimpleName(), call);
    }

    /** As refused, for a state that takes more calls than an object is promised for. */
    static void refusedLate(Check check, String name, Run before, Class<? extends RuntimeException> due,
            Run.Step call) {
        same(check, name, before, due.getSimpleName(), call);
    }

    /** The call answers just this, and changes nothing. */
    static void idle(Check check, String name, Run before, long due, Run.Step call) {
        withinCalls(before);
        same(check, name, before, Long.toString(due), call);
    }

    private static void withinCalls(Run before) {
        for (List<Probe> line : LINES) {
            if (before.calls() + 1 + line.size() > MOST_CALLS) {
                throw new IllegalStateException("more calls than an object is promised for");
            }
        }
    }

    private static void same(Check check, String name, Run before, String due, Run.Step call) {
        for (List<Probe> line : LINES) {
            SignatureSpans with = before.made();
            SignatureSpans without = before.made();
            check.same(name, due, Check.outcome(() -> call.on(with)));
            for (Probe probe : line) {
                check.same(name + ", then " + probe.name, Check.outcome(() -> probe.step.on(without)),
                        Check.outcome(() -> probe.step.on(with)));
            }
        }
    }

    private static List<List<Probe>> lines() {
        List<List<Probe>> all = new ArrayList<>();
        List<Probe> looks = looks();
        for (int at = 0; at < looks.size(); at += LINE) {
            all.add(looks.subList(at, Math.min(at + LINE, looks.size())));
        }
        for (int i = 0; i < 20; i++) {
            all.add(oneSignature(i));
        }
        for (int i = 0; i < FREE_BYTES; i++) {
            all.add(onePlace(i));
        }
        all.add(morePlacesAndSignatures());
        all.add(moreChanges());
        all.add(moreStamps());
        all.add(moreRows());
        all.add(moreLocks());
        all.add(moreLevels());
        return all;
    }

    private static void put(List<Probe> line, String name, Run.Step step) {
        line.add(new Probe(name, step));
    }

    private static List<Probe> looks() {
        List<Probe> line = new ArrayList<>();
        for (int i = 0; i <= BYTES; i++) {
            int n = i;
            put(line, "byte " + i, x -> x.poke(n, 0));
        }
        for (int i = 0; i <= SIGNATURES; i++) {
            lookAtSignature(line, i);
        }
        lookAtStamps(line);
        for (int i = 0; i < SIGNATURES; i++) {
            lookAtDigest(line, i);
            lookAtChanges(line, i);
        }
        return line;
    }

    private static void lookAtSignature(List<Probe> line, int s) {
        put(line, "holds " + s, x -> x.holds(s));
        put(line, "behind " + s, x -> x.behind(s));
        put(line, "changes since " + s, x -> x.since(s, -1, 0));
        for (int i = 0; i < 4; i++) {
            int span = i / 2;
            int side = i % 2;
            put(line, "span " + s + " " + span + " " + side, x -> x.span(s, span, side));
        }
    }

    private static void lookAtDigest(List<Probe> line, int s) {
        for (int i = 0; i < 32; i++) {
            int n = i;
            put(line, "digest " + s + " " + i, x -> x.digest(s, n));
        }
    }

    private static void lookAtChanges(List<Probe> line, int s) {
        for (int i = 0; i <= 40; i++) {
            for (int what = 0; what < 3; what++) {
                int n = i;
                int w = what;
                put(line, "since " + s + " " + i + " " + what, x -> x.since(s, n, w));
            }
        }
    }

    private static void lookAtStamps(List<Probe> line) {
        put(line, "stamps", x -> x.stamped(-1, 0));
        for (int i = 0; i <= 10; i++) {
            for (int what = 0; what < 4; what++) {
                int n = i;
                int w = what;
                put(line, "stamped " + i + " " + what, x -> x.stamped(n, w));
            }
        }
    }

    /** Alone, since a call that is refused before it might undo the difference. */
    private static List<Probe> oneSignature(int field) {
        List<Probe> line = new ArrayList<>();
        put(line, "a signature of " + field + " first", x -> x.sign(field, true, 7));
        for (int i = 0; i < SIGNATURES; i++) {
            lookAtSignature(line, i);
        }
        return line;
    }

    private static List<Probe> onePlace(int from) {
        List<Probe> line = new ArrayList<>();
        put(line, "a place at " + from + " first", x -> x.place(from, from + 1));
        return line;
    }

    /** Which bytes are in a place, which places are taken, and which fields. */
    private static List<Probe> morePlacesAndSignatures() {
        List<Probe> line = new ArrayList<>();
        put(line, "a byte more", x -> x.add((byte) 77));
        put(line, "another one", x -> x.add((byte) 78));
        for (int i = 0; i < BYTES; i++) {
            int n = i;
            put(line, "a place at " + i, x -> x.place(n, n + 1));
        }
        for (int i = 0; i < 20; i++) {
            int field = i;
            put(line, "a signature of " + i, x -> x.sign(field, true, field));
        }
        for (int i = 0; i < SIGNATURES; i++) {
            int s = i;
            lookAtSignature(line, s);
            put(line, "digest byte of " + i, x -> x.digest(s, 0));
        }
        return line;
    }

    private static List<Probe> moreChanges() {
        List<Probe> line = new ArrayList<>();
        for (int i = 0; i <= 40; i++) {
            int field = i % 20;
            put(line, "change more " + i, x -> x.change(0, field));
        }
        for (int i = 0; i < SIGNATURES; i++) {
            lookAtSignature(line, i);
        }
        return line;
    }

    private static List<Probe> moreStamps() {
        List<Probe> line = new ArrayList<>();
        for (int i = 0; i <= 10; i++) {
            int time = i % 3;
            put(line, "stamp more " + i, x -> x.stamp(time));
        }
        lookAtStamps(line);
        return line;
    }

    private static List<Probe> moreRows() {
        List<Probe> line = new ArrayList<>();
        for (int i = 0; i < SIGNATURES; i++) {
            int s = i;
            for (int row = 0; row <= 4; row++) {
                put(line, "a row of " + i, x -> x.chain(s, 0, Long.MAX_VALUE));
            }
            put(line, "holds " + i, x -> x.holds(s));
        }
        return line;
    }

    private static List<Probe> moreLocks() {
        List<Probe> line = new ArrayList<>();
        for (int i = 0; i < SIGNATURES; i++) {
            int s = i;
            for (int f = 0; f < 20; f++) {
                int field = f;
                put(line, "lock " + i + " " + f, x -> x.lock(s, field));
            }
        }
        return line;
    }

    private static List<Probe> moreLevels() {
        List<Probe> line = new ArrayList<>();
        for (int i = 0; i < SIGNATURES; i++) {
            int s = i;
            put(line, "allow " + i, x -> x.allow(s, 15));
            put(line, "certify " + i, x -> x.certify(s, 3));
            put(line, "allow again " + i, x -> x.allow(s, 15));
        }
        lookAtChanges(line, 0);
        return line;
    }
}
