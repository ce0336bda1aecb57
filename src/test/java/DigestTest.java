import java.security.MessageDigest;
import java.security.NoSuchAlgorithmException;
import java.util.NoSuchElementException;

/** Promises 15 (digest) and 16 (behind). */
public final class DigestTest {
    public static void main(String[] args) throws NoSuchAlgorithmException {
        Check check = new Check("DigestTest");
        known(check);
        lengths(check);
        asWhenMade(check);
        afterPokes(check);
        eachItsOwn(check);
        wrongInputs(check);
        behind(check);
        check.end();
    }

    private static void bytes(Check check, String when, SignatureSpans x, int s, byte[] due) {
        for (int i = 0; i < 32; i++) {
            int n = i;
            check.answers(when + ": byte " + i, due[i], () -> x.digest(s, n));
        }
    }

    private static byte[] ofHex(String hex) {
        byte[] out = new byte[hex.length() / 2];
        for (int i = 0; i < out.length; i++) {
            out[i] = (byte) Integer.parseInt(hex.substring(2 * i, 2 * i + 2), 16);
        }
        return out;
    }

    /** The standard's own examples: no byte, and abc. */
    private static void known(Check check) {
        SignatureSpans x = Check.file(7);
        x.place(0, 7);
        x.sign(0, true, 0);
        bytes(check, "nothing", x, 0, ofHex("e3b0c44298fc1c149afbf4c8996fb92427ae41e4649b934ca495991b7852b855"));
        SignatureSpans y = new SignatureSpans();
        byte[] text = {'a', 'x', 'x', 'b', 'c'};
        for (byte b : text) {
            y.add(b);
        }
        y.place(1, 3);
        y.sign(0, true, 0);
        bytes(check, "abc", y, 0, ofHex("ba7816bf8f01cfea414140de5dae2223b00361a396177a9cb410ff61f20015ad"));
    }

    /** Each length that leaves an object calls enough, so each edge of the blocks up to there. */
    private static void lengths(Check check) throws NoSuchAlgorithmException {
        for (int size = 3; size <= 478; size++) {
            SignatureSpans x = Check.file(size);
            int from = size / 3;
            int to = from + 1 + size % 2;
            x.place(from, to);
            x.sign(0, true, 0);
            bytes(check, "a file of " + size, x, 0, hash(size, from, to, -1));
        }
    }

    private static void asWhenMade(Check check) {
        SignatureSpans x = Check.signed();
        byte[] before = new byte[32];
        for (int i = 0; i < 32; i++) {
            before[i] = x.digest(0, i);
        }
        x.poke(0, 255);
        x.add((byte) 1);
        x.tell(0, 0, 1, 2);
        x.place(8, 9);
        x.sign(1, true, 0);
        x.stamp(3);
        check.answers("it does not hold", 2, () -> x.holds(0));
        bytes(check, "after all that", x, 0, before);
    }

    private static byte[] hash(int size, int from, int to, int poked) throws NoSuchAlgorithmException {
        MessageDigest hash = MessageDigest.getInstance("SHA-256");
        for (int i = 0; i < size; i++) {
            if (i < from || i >= to) {
                hash.update((byte) (i == poked ? ~(i * 37) : i * 37));
            }
        }
        return hash.digest();
    }

    /** Of the bytes as they are then: a byte that was changed before counts as it is. */
    private static void afterPokes(Check check) throws NoSuchAlgorithmException {
        for (int i = 0; i < 12; i++) {
            SignatureSpans x = Check.file(12);
            x.place(5, 7);
            x.poke(i, 255);
            x.sign(0, true, 0);
            bytes(check, "byte " + i + " changed before", x, 0, hash(12, 5, 7, i));
            x.poke(i, 255);
            bytes(check, "byte " + i + " changed back", x, 0, hash(12, 5, 7, i));
        }
    }

    /** Each leaves out its own place alone, and ends where it was made. */
    private static void eachItsOwn(Check check) throws NoSuchAlgorithmException {
        SignatureSpans x = Check.file(60);
        for (int i = 0; i < 8; i++) {
            x.place(7 * i, 7 * i + 1 + i % 7);
            x.sign(i, true, 0);
            Check.grow(x, 60 + i, 61 + i);
        }
        for (int i = 0; i < 8; i++) {
            bytes(check, "signature " + i, x, i, hash(60 + i, 7 * i, 7 * i + 1 + i % 7, -1));
        }
    }

    private static void wrongInputs(Check check) {
        SignatureSpans x = Check.signed();
        int[] wrong = {-1, 32, 33, Integer.MAX_VALUE, Integer.MIN_VALUE};
        for (int w : wrong) {
            check.refuses("digest(0, " + w + ")", ArrayIndexOutOfBoundsException.class, () -> x.digest(0, w));
            check.refuses("digest(1, " + w + ")", NoSuchElementException.class, () -> x.digest(1, w));
            check.refuses("digest(-1, " + w + ")", NoSuchElementException.class, () -> x.digest(-1, w));
        }
        check.refuses("digest(1, 0)", NoSuchElementException.class, () -> x.digest(1, 0));
    }

    private static void behind(Check check) {
        SignatureSpans x = Check.signed();
        check.answers("nothing behind", 0, () -> x.behind(0));
        Check.grow(x, 20, 23);
        check.answers("three behind", 3, () -> x.behind(0));
        x.place(20, 21);
        x.sign(1, true, 0);
        check.answers("a signature is not behind", 3, () -> x.behind(0));
        check.answers("nothing behind the second one", 0, () -> x.behind(1));
        x.tell(0, 1, 6, 7);
        x.add((byte) 1);
        check.answers("four behind", 4, () -> x.behind(0));
        check.answers("one behind the second one", 1, () -> x.behind(1));
        int[] wrong = {-1, 2, 8, Integer.MAX_VALUE, Integer.MIN_VALUE};
        for (int w : wrong) {
            check.refuses("behind(" + w + ")", NoSuchElementException.class, () -> x.behind(w));
        }
    }
}
