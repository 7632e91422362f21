import java.nio.charset.StandardCharsets;
import java.util.Arrays;

/**
 * A LimitTokens whose calls are counted: the document frees what an object answers
 * behind its 512th call, so no test may lean on that.
 */
final class Counted {
    static final int MOST_CALLS = 512;

    private final LimitTokens inner = new LimitTokens();
    private int calls = 0;

    int callsLeft() {
        return MOST_CALLS - calls;
    }

    private LimitTokens next() {
        calls++;
        if (calls > MOST_CALLS) {
            throw new IllegalStateException("this test makes more than " + MOST_CALLS + " calls on one object");
        }
        return inner;
    }

    int add(int r, int n, long w) {
        return next().add(r, n, w);
    }

    int clear(int r) {
        return next().clear(r);
    }

    int at(int r, int i) {
        return next().at(r, i);
    }

    int hash(int to, int of) {
        return next().hash(to, of);
    }

    int seal(int to, int k, int m) {
        return next().seal(to, k, m);
    }

    int make(int t, int key, int name) {
        return next().make(t, key, name);
    }

    int limit(int t, int text) {
        return next().limit(t, text);
    }

    int others(int t, int key, int text) {
        return next().others(t, key, text);
    }

    int bind(int t, int to) {
        return next().bind(t, to);
    }

    int copy(int t, int to) {
        return next().copy(t, to);
    }

    int drop(int t) {
        return next().drop(t);
    }

    int told(int t, int what) {
        return next().told(t, what);
    }

    int sign(int t, int i) {
        return next().sign(t, i);
    }

    int spoil(int t, int k, int i, int x) {
        return next().spoil(t, k, i, x);
    }

    int ask(int letter, int v) {
        return next().ask(letter, v);
    }

    int truth(int r) {
        return next().truth(r);
    }

    int prove(int t, int key, int helpers) {
        return next().prove(t, key, helpers);
    }

    int fault(int what) {
        return next().fault(what);
    }

    int write(int t) {
        return next().write(t);
    }

    int type(long w, int n) {
        return next().type(w, n);
    }

    int tape(int i) {
        return next().tape(i);
    }

    int cut(int n) {
        return next().cut(n);
    }

    int forge(int i, int x) {
        return next().forge(i, x);
    }

    int read(int t) {
        return next().read(t);
    }

    int place() {
        return next().place();
    }

    // -- runs of calls

    Counted put(int r, byte[] b) {
        clear(r);
        for (int i = 0; i < b.length; i += 8) {
            int n = Math.min(8, b.length - i);
            add(r, n, lowestFirst(b, i, n));
        }
        return this;
    }

    Counted put(int r, String s) {
        return put(r, s.getBytes(StandardCharsets.ISO_8859_1));
    }

    Counted typeAll(byte[] b) {
        for (int i = 0; i < b.length; i += 8) {
            int n = Math.min(8, b.length - i);
            type(lowestFirst(b, i, n), n);
        }
        return this;
    }

    private static long lowestFirst(byte[] b, int from, int n) {
        long w = 0;
        for (int k = n - 1; k >= 0; k--) {
            w = w << 8 | b[from + k] & 255;
        }
        return w;
    }

    /** A register's bytes; none is there if the answer is below 0. */
    byte[] register(int r) {
        byte[] all = new byte[101];
        int n = 0;
        for (int b = at(r, 0); b >= 0 && n < 101; b = at(r, n)) {
            all[n] = (byte) b;
            n++;
        }
        return Arrays.copyOf(all, n);
    }

    byte[] tapeFrom(int from, int to) {
        byte[] all = new byte[to - from];
        for (int i = from; i < to; i++) {
            all[i - from] = (byte) tape(i);
        }
        return all;
    }

    byte[] signOf(int t) {
        byte[] all = new byte[32];
        for (int i = 0; i < 32; i++) {
            all[i] = (byte) sign(t, i);
        }
        return all;
    }

    /** The token as bytes; this changes the tape. */
    byte[] bytesOf(int t) {
        int n = write(t);
        return n < 0 ? new byte[0] : tapeFrom(0, n);
    }
}
