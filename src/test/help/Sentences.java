import java.nio.charset.StandardCharsets;
import java.security.GeneralSecurityException;
import java.security.MessageDigest;
import java.util.Arrays;
import javax.crypto.Mac;
import javax.crypto.spec.SecretKeySpec;

/**
 * What the tests of single sentences stand on: it keeps which sentence of the document
 * is being tested, prints each answer that is not the one due there, and has the bytes
 * and seals that the tests compare with.
 */
abstract class Sentences {
    static final int NONE = -1;
    static final int BAD = -2;
    static final int REFUSED = -3;
    static final int LEAST = Integer.MIN_VALUE;
    static final int MOST = Integer.MAX_VALUE;
    /** Numbers of no register, no token and no letter. */
    static final int[] NOT_0_TO_7 = {-1, 8, LEAST, MOST};
    /** Numbers that are no count of bytes to take of a long. */
    static final int[] NOT_1_TO_8 = {0, 9, -1, LEAST, MOST};
    /** Numbers that are no byte. */
    static final int[] NOT_A_BYTE = {-1, 256, LEAST, MOST};

    private static String tested = "";
    private static int sentences = 0;
    private static int checksOfSentence = 1;
    private static int checks = 0;
    private static int wrong = 0;

    /** What follows tests this sentence; the last one must have been tested at all. */
    static void sentence(String where, String words) {
        closeLast();
        tested = where + ": \"" + words + "\"";
        sentences++;
        checksOfSentence = 0;
    }

    private static void closeLast() {
        if (checksOfSentence == 0) {
            wrong++;
            System.out.println(tested + " is not tested");
        }
    }

    static void due(String what, long got, long want) {
        count();
        if (got != want) {
            tell(what + " answered " + got + ", due is " + want);
        }
    }

    static void due(String what, byte[] got, byte[] want) {
        count();
        if (!Arrays.equals(got, want)) {
            tell(what + " is " + Arrays.toString(got) + ", due is " + Arrays.toString(want));
        }
    }

    static void due(String what, String got, String want) {
        count();
        if (!got.equals(want)) {
            tell(what + " is " + got + ", due is " + want);
        }
    }

    static void dueOther(String what, byte[] got, byte[] notDue) {
        count();
        if (Arrays.equals(got, notDue)) {
            tell(what + " is " + Arrays.toString(got) + ", which is not due");
        }
    }

    static void dueFault(Counted x, int token, int limit, int begun) {
        due("fault(0)", x.fault(0), token);
        due("fault(1)", x.fault(1), limit);
        due("fault(2)", x.fault(2), begun);
    }

    private static void count() {
        checks++;
        checksOfSentence++;
    }

    private static void tell(String what) {
        wrong++;
        System.out.println(tested + "\n    " + what);
    }

    static void end() {
        closeLast();
        System.out.println(sentences + " sentences, " + checks + " answers, " + wrong + " not as due");
        if (wrong != 0) {
            System.exit(1);
        }
    }

    // -- bytes

    static byte[] bytes(String s) {
        return s.getBytes(StandardCharsets.ISO_8859_1);
    }

    static byte[] bytes(int... all) {
        byte[] b = new byte[all.length];
        for (int i = 0; i < all.length; i++) {
            b[i] = (byte) all[i];
        }
        return b;
    }

    static byte[] filled(int n, int b) {
        byte[] all = new byte[n];
        Arrays.fill(all, (byte) b);
        return all;
    }

    /** Bytes that are not all the same, so that a wrong place shows. */
    static byte[] mixed(int n, int seed) {
        byte[] all = new byte[n];
        for (int i = 0; i < n; i++) {
            all[i] = (byte) (i * 37 + seed * 101 + (i >> 3) + 1);
        }
        return all;
    }

    static byte[] join(byte[]... parts) {
        byte[] all = new byte[0];
        for (byte[] part : parts) {
            int n = all.length;
            all = Arrays.copyOf(all, n + part.length);
            System.arraycopy(part, 0, all, n, part.length);
        }
        return all;
    }

    static byte[] xor(byte[] a, byte[] b) {
        byte[] all = a.clone();
        for (int i = 0; i < all.length; i++) {
            all[i] ^= b[i];
        }
        return all;
    }

    static byte[] hex(String s) {
        byte[] all = new byte[s.length() / 2];
        for (int i = 0; i < all.length; i++) {
            all[i] = (byte) Integer.parseInt(s.substring(2 * i, 2 * i + 2), 16);
        }
        return all;
    }

    // -- the hash and the seal, by the Java library

    static byte[] hashOf(byte[] b) {
        try {
            return MessageDigest.getInstance("SHA-256").digest(b);
        } catch (GeneralSecurityException e) {
            throw new IllegalStateException(e);
        }
    }

    static byte[] sealOf(byte[] key, byte[] message) {
        try {
            Mac mac = Mac.getInstance("HmacSHA256");
            // The library takes no key without bytes; a 0 more behind it makes no difference.
            mac.init(new SecretKeySpec(key.length == 0 ? new byte[1] : key, "HmacSHA256"));
            return mac.doFinal(message);
        } catch (GeneralSecurityException e) {
            throw new IllegalStateException(e);
        }
    }

    static byte[] lockOf(byte[] s, byte[] key, byte[] text) {
        return xor(key, sealOf(s, text));
    }

    static byte[] signBehindOthers(byte[] s, byte[] key, byte[] text) {
        return sealOf(s, join(sealOf(s, lockOf(s, key, text)), sealOf(s, text)));
    }

    static byte[] boundSign(byte[] s, byte[] otherSign) {
        return sealOf(new byte[32], join(otherSign, s));
    }
}
