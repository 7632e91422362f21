import java.nio.charset.StandardCharsets;
import java.security.MessageDigest;
import java.util.Arrays;
import javax.crypto.Mac;
import javax.crypto.spec.SecretKeySpec;

/** Each promise of the document in turn: ordinary inputs, its edges, and wrong inputs. */
public final class PromiseTests {
    private static final int NONE = -1;
    private static final int BAD = -2;
    private static final int REFUSED = -3;
    private static final int[] NO_EIGHTH = {-1, 8, Integer.MIN_VALUE, Integer.MAX_VALUE};

    private static int wrong = 0;
    private static int promise = 0;
    private static int checks = 0;

    private static void due(String what, int got, int want) {
        checks++;
        if (got != want) {
            wrong++;
            System.out.println("promise " + promise + ": " + what + " answered " + got + ", due is " + want);
        }
    }

    public static void main(String[] args) throws Exception {
        promise = 1;
        newObject();
        promise = 2;
        add();
        promise = 3;
        clear();
        promise = 4;
        at();
        promise = 5;
        hash();
        promise = 6;
        seal();
        promise = 7;
        make();
        promise = 8;
        limit();
        promise = 9;
        others();
        promise = 10;
        bind();
        promise = 11;
        copy();
        promise = 12;
        drop();
        promise = 13;
        told();
        promise = 14;
        sign();
        promise = 15;
        spoil();
        promise = 16;
        ask();
        promise = 17;
        truth();
        promise = 18;
        prove();
        proveOrder();
        proveDeep();
        promise = 19;
        fault();
        promise = 20;
        write();
        promise = 21;
        type();
        promise = 22;
        tape();
        promise = 23;
        cut();
        promise = 24;
        forge();
        promise = 25;
        read();
        promise = 26;
        place();
        System.out.println(wrong == 0 ? checks + " answers are as due" : wrong + " answers are not as due");
        if (wrong != 0) {
            System.exit(1);
        }
    }

    // -- helpers

    private static byte[] bytes(String s) {
        return s.getBytes(StandardCharsets.ISO_8859_1);
    }

    private static byte[] filled(int n, int b) {
        byte[] all = new byte[n];
        Arrays.fill(all, (byte) b);
        return all;
    }

    private static byte[] join(byte[] a, byte[] b) {
        byte[] all = Arrays.copyOf(a, a.length + b.length);
        System.arraycopy(b, 0, all, a.length, b.length);
        return all;
    }

    private static byte[] xor(byte[] a, byte[] b) {
        byte[] all = a.clone();
        for (int i = 0; i < all.length; i++) {
            all[i] ^= b[i];
        }
        return all;
    }

    private static byte[] hmac(byte[] key, byte[] message) throws Exception {
        Mac mac = Mac.getInstance("HmacSHA256");
        // A key without bytes is the same as one of a 0: 0s are put behind it.
        mac.init(new SecretKeySpec(key.length == 0 ? new byte[1] : key, "HmacSHA256"));
        return mac.doFinal(message);
    }

    private static void set(LimitTokens x, int r, byte[] b) {
        x.clear(r);
        for (int i = 0; i < b.length; i += 8) {
            int n = Math.min(8, b.length - i);
            long w = 0;
            for (int k = n - 1; k >= 0; k--) {
                w = w << 8 | b[i + k] & 255;
            }
            x.add(r, n, w);
        }
    }

    private static void set(LimitTokens x, int r, String s) {
        set(x, r, bytes(s));
    }

    private static void dueRegister(LimitTokens x, int r, byte[] want) {
        for (int i = 0; i < want.length; i++) {
            due("at(" + r + ", " + i + ")", x.at(r, i), want[i] & 255);
        }
        due("at(" + r + ", its length)", x.at(r, want.length), NONE);
    }

    private static void dueSign(LimitTokens x, int t, byte[] want) {
        for (int i = 0; i < 32; i++) {
            due("sign(" + t + ", " + i + ")", x.sign(t, i), want[i] & 255);
        }
    }

    private static void dueTape(LimitTokens x, byte[] want) {
        for (int i = 0; i < want.length; i++) {
            due("tape(" + i + ")", x.tape(i), want[i] & 255);
        }
        due("tape(its length)", x.tape(want.length), NONE);
    }

    private static void dueFault(LimitTokens x, int token, int limit, int begun) {
        due("fault(0)", x.fault(0), token);
        due("fault(1)", x.fault(1), limit);
        due("fault(2)", x.fault(2), begun);
    }

    /** Registers 0 and 1: keys of 32 bytes; 2 "root", 3 "bank", 4 "post", 5 "a<5", 6 "b=". */
    private static LimitTokens ready() {
        LimitTokens x = new LimitTokens();
        set(x, 0, filled(32, 7));
        set(x, 1, filled(32, 200));
        set(x, 2, "root");
        set(x, 3, "bank");
        set(x, 4, "post");
        set(x, 5, "a<5");
        set(x, 6, "b=");
        return x;
    }

    private static void type(LimitTokens x, byte[] b) {
        for (byte one : b) {
            x.type(one, 1);
        }
    }

    // -- the promises

    private static void newObject() {
        LimitTokens x = new LimitTokens();
        for (int r = 0; r < 8; r++) {
            due("at", x.at(r, 0), NONE);
            due("clear", x.clear(r), 0);
            due("told", x.told(r, 0), BAD);
            due("sign", x.sign(r, 0), BAD);
            due("drop", x.drop(r), 0);
            due("ask", x.ask(r, 0), 0);
        }
        due("tape", x.tape(0), NONE);
        due("cut", x.cut(0), 0);
        due("place", x.place(), NONE);
        dueFault(x, NONE, NONE, NONE);
        LimitTokens y = new LimitTokens();
        x.add(0, 1, 5);
        x.type(5, 1);
        due("another object's register", y.at(0, 0), NONE);
        due("another object's tape", y.tape(0), NONE);
    }

    private static void add() {
        LimitTokens x = new LimitTokens();
        due("add", x.add(3, 1, 0x1ffL), 1);
        due("add", x.add(3, 8, 0x8877665544332211L), 9);
        due("add", x.add(3, 2, -2L), 11);
        dueRegister(x, 3, new byte[] {-1, 0x11, 0x22, 0x33, 0x44, 0x55, 0x66, 0x77, (byte) 0x88, -2, -1});
        due("at of another", x.at(2, 0), NONE);
        for (int r : NO_EIGHTH) {
            due("add to no register", x.add(r, 1, 0), BAD);
        }
        for (int n : new int[] {0, 9, -1, Integer.MIN_VALUE, Integer.MAX_VALUE}) {
            due("add of no width", x.add(3, n, 0), BAD);
        }
        set(x, 0, filled(97, 1));
        due("add of too many", x.add(0, 4, 0), REFUSED);
        due("at behind", x.at(0, 97), NONE);
        due("add that fills", x.add(0, 3, 0), 100);
        due("add behind", x.add(0, 1, 0), REFUSED);
        due("BAD goes before REFUSED", x.add(0, 9, 0), BAD);
        due("still", x.clear(0), 100);
    }

    private static void clear() {
        LimitTokens x = new LimitTokens();
        x.add(7, 5, 9);
        x.add(6, 2, 9);
        due("clear", x.clear(7), 5);
        due("clear", x.clear(7), 0);
        due("at", x.at(7, 0), NONE);
        due("the other one", x.clear(6), 2);
        due("add again", x.add(7, 1, 4), 1);
        for (int r : NO_EIGHTH) {
            due("clear of none", x.clear(r), BAD);
        }
    }

    private static void at() {
        LimitTokens x = new LimitTokens();
        x.add(0, 2, 0xff80L);
        due("at", x.at(0, 0), 128);
        due("at", x.at(0, 1), 255);
        for (int i : new int[] {2, 99, 100, -1, Integer.MIN_VALUE, Integer.MAX_VALUE}) {
            due("at no byte", x.at(0, i), NONE);
        }
        for (int r : NO_EIGHTH) {
            due("at no register", x.at(r, 0), BAD);
            due("at no register, no byte", x.at(r, -1), BAD);
        }
    }

    private static void hash() throws Exception {
        LimitTokens x = new LimitTokens();
        MessageDigest sha = MessageDigest.getInstance("SHA-256");
        for (int n = 0; n <= 100; n++) {
            x = new LimitTokens();
            byte[] m = new byte[n];
            for (int i = 0; i < n; i++) {
                m[i] = (byte) (i * 37 + n * 11);
            }
            set(x, 2, m);
            due("hash", x.hash(5, 2), 32);
            dueRegister(x, 5, sha.digest(m));
            dueRegister(x, 2, m);
            due("hash to itself", x.hash(2, 2), 32);
            dueRegister(x, 2, sha.digest(m));
        }
        for (int r : NO_EIGHTH) {
            due("hash to none", x.hash(r, 0), BAD);
            due("hash of none", x.hash(0, r), BAD);
        }
        due("unchanged", x.at(0, 0), NONE);
    }

    private static void seal() throws Exception {
        LimitTokens x = new LimitTokens();
        for (int k : new int[] {0, 1, 31, 32, 63, 64, 65, 99, 100}) {
            for (int n : new int[] {0, 1, 54, 55, 56, 64, 100}) {
                x = new LimitTokens();
                byte[] key = filled(k, 181);
                byte[] message = filled(n, 3);
                set(x, 0, key);
                set(x, 1, message);
                due("seal", x.seal(2, 0, 1), 32);
                dueRegister(x, 2, hmac(key, message));
                due("its key", x.clear(0), k);
                due("its message", x.clear(1), n);
            }
        }
        byte[] all = filled(70, 9);
        set(x, 3, all);
        due("seal to itself", x.seal(3, 3, 3), 32);
        dueRegister(x, 3, hmac(all, all));
        for (int r : NO_EIGHTH) {
            due("seal to none", x.seal(r, 0, 0), BAD);
            due("seal with none", x.seal(0, r, 0), BAD);
            due("seal of none", x.seal(0, 0, r), BAD);
        }
    }

    private static void make() throws Exception {
        LimitTokens x = ready();
        due("make", x.make(7, 0, 2), 0);
        dueSign(x, 7, hmac(filled(32, 7), bytes("root")));
        due("limit", x.limit(7, 5), 1);
        due("make instead", x.make(7, 2, 3), 0);
        dueSign(x, 7, hmac(bytes("root"), bytes("bank")));
        due("it has no limits", x.told(7, 1), 0);
        x.clear(3);
        due("the register is gone, the name is not", x.told(7, 0), 4);
        due("no name", x.make(7, 0, 3), REFUSED);
        due("it is as before", x.told(7, 0), 4);
        set(x, 3, filled(60, 1));
        due("60 bytes", x.make(6, 7, 3), 0);
        dueSign(x, 6, hmac(new byte[0], filled(60, 1)));
        x.add(3, 1, 1);
        due("61 bytes", x.make(5, 0, 3), REFUSED);
        due("none is made", x.told(5, 0), BAD);
        set(x, 4, filled(100, 2));
        due("a key of 100 bytes", x.make(4, 4, 2), 0);
        dueSign(x, 4, hmac(filled(100, 2), bytes("root")));
        for (int n : NO_EIGHTH) {
            due("make none", x.make(n, 0, 2), BAD);
            due("make with no key", x.make(0, n, 2), BAD);
            due("make with no name", x.make(0, 0, n), BAD);
            due("BAD goes before REFUSED", x.make(n, 0, 3), BAD);
        }
    }

    private static void limit() throws Exception {
        LimitTokens x = ready();
        x.make(1, 0, 2);
        byte[] s = hmac(filled(32, 7), bytes("root"));
        due("limit", x.limit(1, 5), 1);
        s = hmac(s, bytes("a<5"));
        dueSign(x, 1, s);
        set(x, 7, filled(60, 254));
        due("a text of 60 bytes, not a good one", x.limit(1, 7), 2);
        s = hmac(s, filled(60, 254));
        dueSign(x, 1, s);
        x.add(7, 1, 1);
        due("of 61", x.limit(1, 7), REFUSED);
        x.clear(7);
        due("of 0", x.limit(1, 7), REFUSED);
        dueSign(x, 1, s);
        for (int i = 3; i <= 10; i++) {
            due("limit", x.limit(1, 5), i);
            s = hmac(s, bytes("a<5"));
        }
        due("an eleventh", x.limit(1, 5), REFUSED);
        dueSign(x, 1, s);
        due("still 10", x.told(1, 1), 10);
        due("a token that is not there", x.limit(0, 5), BAD);
        for (int n : NO_EIGHTH) {
            due("no token", x.limit(n, 5), BAD);
            due("no text: BAD before REFUSED", x.limit(1, n), BAD);
        }
    }

    private static void others() throws Exception {
        LimitTokens x = ready();
        x.make(1, 0, 2);
        byte[] s = hmac(filled(32, 7), bytes("root"));
        byte[] seal = hmac(s, bytes("bank"));
        byte[] lock = xor(filled(32, 200), seal);
        due("others", x.others(1, 1, 3), 1);
        dueSign(x, 1, hmac(s, join(hmac(s, lock), seal)));
        due("its text", x.told(1, 2), 104);
        x.write(1);
        for (int i = 0; i < 32; i++) {
            due("its lock", x.tape(16 + i), lock[i] & 255);
        }
        set(x, 7, filled(31, 1));
        due("a key of 31", x.others(1, 7, 3), REFUSED);
        set(x, 7, filled(33, 1));
        due("a key of 33", x.others(1, 7, 3), REFUSED);
        x.clear(7);
        due("a text of 0", x.others(1, 1, 7), REFUSED);
        set(x, 7, filled(61, 1));
        due("a text of 61", x.others(1, 1, 7), REFUSED);
        due("nothing came of it", x.told(1, 1), 1);
        dueSign(x, 1, hmac(s, join(hmac(s, lock), seal)));
        set(x, 7, filled(60, 1));
        due("a text of 60", x.others(1, 1, 7), 2);
        due("key and text the same", x.others(1, 1, 1), 3);
        for (int i = 4; i <= 10; i++) {
            due("others", x.others(1, 1, 3), i);
        }
        due("an eleventh", x.others(1, 1, 3), REFUSED);
        due("an own eleventh", x.limit(1, 3), REFUSED);
        due("a token that is not there", x.others(0, 1, 3), BAD);
        for (int n : NO_EIGHTH) {
            due("no token", x.others(n, 1, 3), BAD);
            due("no key", x.others(1, n, 3), BAD);
            due("no text", x.others(1, 1, n), BAD);
        }
    }

    private static void bind() throws Exception {
        LimitTokens x = ready();
        x.make(0, 0, 2);
        x.make(1, 1, 3);
        byte[] a = hmac(filled(32, 7), bytes("root"));
        byte[] b = hmac(filled(32, 200), bytes("bank"));
        due("bind", x.bind(1, 0), 0);
        byte[] bound = hmac(new byte[32], join(a, b));
        dueSign(x, 1, bound);
        dueSign(x, 0, a);
        due("bind to itself", x.bind(0, 0), 0);
        dueSign(x, 0, hmac(new byte[32], join(a, a)));
        due("its limits", x.told(1, 1), 0);
        due("bind to none", x.bind(0, 2), BAD);
        due("bind none", x.bind(2, 0), BAD);
        for (int n : NO_EIGHTH) {
            due("bind to none", x.bind(0, n), BAD);
            due("bind none", x.bind(n, 0), BAD);
        }
    }

    private static void copy() throws Exception {
        LimitTokens x = ready();
        x.make(0, 0, 2);
        x.limit(0, 5);
        x.others(0, 1, 3);
        int n = x.write(0);
        byte[] tape = new byte[n];
        for (int i = 0; i < n; i++) {
            tape[i] = (byte) x.tape(i);
        }
        due("copy", x.copy(0, 7), 2);
        x.write(7);
        dueTape(x, tape);
        due("limit of the copy", x.limit(7, 5), 3);
        due("spoil of the copy", x.spoil(7, 1, 0, 1), 'a' ^ 1);
        x.write(0);
        dueTape(x, tape);
        due("copy to itself", x.copy(0, 0), 2);
        x.write(0);
        dueTape(x, tape);
        x.make(1, 0, 3);
        due("copy over more limits", x.copy(1, 7), 0);
        due("none of them is left", x.told(7, 2), 0);
        due("copy of one that is not there", x.copy(3, 0), BAD);
        due("it is as before", x.told(0, 1), 2);
        for (int t : NO_EIGHTH) {
            due("copy of none", x.copy(t, 0), BAD);
            due("copy to none", x.copy(0, t), BAD);
        }
    }

    private static void drop() {
        LimitTokens x = ready();
        x.make(5, 0, 2);
        x.make(6, 0, 2);
        due("drop", x.drop(5), 1);
        due("drop again", x.drop(5), 0);
        due("it is not there", x.told(5, 0), BAD);
        due("no sign", x.sign(5, 0), BAD);
        due("no limit", x.limit(5, 5), BAD);
        due("no writing", x.write(5), BAD);
        due("the other one is", x.told(6, 0), 4);
        for (int t : NO_EIGHTH) {
            due("drop of none", x.drop(t), BAD);
        }
    }

    private static void told() {
        LimitTokens x = ready();
        x.make(2, 0, 2);
        x.limit(2, 5);
        x.others(2, 1, 2);
        set(x, 7, filled(60, 1));
        x.others(2, 1, 7);
        x.limit(2, 7);
        int[] want = {4, 4, 3, 104, 160, 60, 0, 0, 0, 0, 0, 0};
        for (int what = 0; what < want.length; what++) {
            due("told " + what, x.told(2, what), want[what]);
        }
        for (int i = 5; i <= 10; i++) {
            x.limit(2, 5);
        }
        due("told 11", x.told(2, 11), 3);
        for (int what : new int[] {-1, 12, Integer.MIN_VALUE, Integer.MAX_VALUE}) {
            due("told of nothing", x.told(2, what), BAD);
        }
        due("told of one that is not there", x.told(3, 0), BAD);
        for (int t : NO_EIGHTH) {
            due("told of none", x.told(t, 0), BAD);
        }
    }

    private static void sign() throws Exception {
        LimitTokens x = ready();
        x.make(2, 0, 2);
        dueSign(x, 2, hmac(filled(32, 7), bytes("root")));
        for (int i : new int[] {-1, 32, Integer.MIN_VALUE, Integer.MAX_VALUE}) {
            due("no byte", x.sign(2, i), BAD);
        }
        due("one that is not there", x.sign(3, 0), BAD);
        for (int t : NO_EIGHTH) {
            due("no token", x.sign(t, 0), BAD);
        }
    }

    private static void spoil() throws Exception {
        LimitTokens x = ready();
        x.make(2, 0, 2);
        x.limit(2, 5);
        x.others(2, 1, 3);
        int n = x.write(2);
        byte[] tape = new byte[n];
        for (int i = 0; i < n; i++) {
            tape[i] = (byte) x.tape(i);
        }
        due("the sign", x.spoil(2, 0, 31, 255), ~tape[n - 1] & 255);
        tape[n - 1] = (byte) ~tape[n - 1];
        due("an own text", x.spoil(2, 1, 2, 1), '4');
        tape[12] = '4';
        due("a text of others", x.spoil(2, 2, 0, 32), 'B');
        tape[16] = 'B';
        due("by 0", x.spoil(2, 2, 3, 0), 'k');
        x.write(2);
        dueTape(x, tape);
        int[][] none = {
            {2, -1, 0, 1}, {2, 3, 0, 1}, {2, 10, 0, 1}, {2, 11, 0, 1}, {2, 0, -1, 1}, {2, 0, 32, 1},
            {2, 1, 3, 1}, {2, 1, -1, 1}, {2, 2, 4, 1}, {2, 0, 0, -1}, {2, 0, 0, 256}, {2, 1, 0, 256},
            {3, 0, 0, 1}, {-1, 0, 0, 1}, {8, 0, 0, 1}, {2, Integer.MIN_VALUE, 0, 1},
            {2, Integer.MAX_VALUE, 0, 1}, {2, 1, Integer.MAX_VALUE, 1}, {2, 1, Integer.MIN_VALUE, 1},
        };
        for (int[] c : none) {
            due("spoil " + Arrays.toString(c), x.spoil(c[0], c[1], c[2], c[3]), BAD);
        }
        x.write(2);
        dueTape(x, tape);
    }

    private static void ask() {
        LimitTokens x = new LimitTokens();
        for (int l = 0; l < 8; l++) {
            due("ask", x.ask(l, 100 + l), 0);
        }
        for (int l = 0; l < 8; l++) {
            due("ask", x.ask(l, 999999), 100 + l);
        }
        for (int v : new int[] {-1, 1000000, Integer.MIN_VALUE, Integer.MAX_VALUE}) {
            due("no number", x.ask(0, v), BAD);
        }
        for (int l : NO_EIGHTH) {
            due("no letter", x.ask(l, 1), BAD);
        }
        due("as before", x.ask(0, 0), 999999);
        due("0", x.ask(0, 5), 0);
        set(x, 0, "a=5&b=999999");
        due("truth", x.truth(0), 1);
    }

    private static void dueTruth(LimitTokens x, String text, int want) {
        set(x, 0, text);
        due("truth of '" + text + "'", x.truth(0), want);
    }

    private static void truth() {
        LimitTokens x = new LimitTokens();
        x.ask(0, 6);
        x.ask(1, 0);
        x.ask(7, 999999);
        String[] isTrue = {
            "a<7", "a=6", "a>5", "a#3", "a#6", "a#1", "b#0", "b#5", "!a<6", "!a=5", "!a>6", "!a#4",
            "!a#0", "a=000006", "a=06", "h=999999", "h>999998", "c=0", "a=6&b=0", "a=1|b=0", "b=0|a=1",
            "a=1&b=0|c=0", "c=0|a=1&b=0", "a=1|a=2|a=6", "a=6&b=0&c=0&d=0&e=0&f=0&g=0", "!a=1&!b=1",
            "a=6|a=1&a=2", "h#3",
        };
        for (String s : isTrue) {
            dueTruth(x, s, 1);
        }
        x = new LimitTokens();
        x.ask(0, 6);
        x.ask(7, 999999);
        String[] isFalse = {
            "a<6", "a<0", "a=7", "a>6", "a#4", "a#12", "a#0", "!b#0", "!a<7", "!a=6", "!a>5", "!a#3",
            "a=6&b=1", "b=1&a=6", "a=1|b=1", "a=6&b=1|c=1", "a=1|a=2&a=6", "h<999999", "b<0", "b>0",
            "a=6&a=6&a=6&a=7", "!a=1&!b=0",
        };
        for (String s : isFalse) {
            dueTruth(x, s, 0);
        }
        x = new LimitTokens();
        String[] isWrong = {
            "", "a", "a<", "<1", "1", "a1", "a<x", "i<1", "`<1", "A<1", "a!1", "a:1", "a;1", "a?1",
            "a\"1", "a$1", "a<0000001", "a<1234567", "!!a=1", "!", "!a", "a=!1", "a=1!", "a=1&", "a=1|",
            "&a=1", "|a=1", "a=1&&b=1", "a=1||b=1", "a=1&|b=1", "a=1|&b=1", "a=1,b=1", "a=1b=1", " a=1",
            "a =1", "a= 1", "a=1 ", "a=1 &b=1", "a==1", "a<=1", "a=-1", "a=+1", "a=/", "a=1/", "a=:",
            "a=1:", "a=0|x", "a=0|b", "a=1&x", "(a=1)", "a=1\0", "\0", "a=\u00b1", "\u00e1=1", "a=0|!",
            "a=1}", "a=1{", "a=1'", "a=1%",
        };
        for (String s : isWrong) {
            if (s.length() % 7 == 3) {
                x = new LimitTokens();
            }
            dueTruth(x, s, NONE);
        }
        x = new LimitTokens();
        StringBuilder hundred = new StringBuilder("a=00");
        for (int i = 0; i < 24; i++) {
            hundred.append("&b=0");
        }
        dueTruth(x, hundred.toString(), 1);
        hundred.setCharAt(99, '1');
        dueTruth(x, hundred.toString(), 0);
        hundred.setCharAt(99, '&');
        dueTruth(x, hundred.toString(), NONE);
        for (int r : NO_EIGHTH) {
            due("truth of none", x.truth(r), BAD);
        }
    }

    private static void prove() {
        LimitTokens x = ready();
        x.make(0, 0, 2);
        due("proved", x.prove(0, 0, 0), 0);
        due("another key", x.prove(0, 1, 0), -15);
        x.limit(0, 5);
        due("proved", x.prove(0, 0, 0), 0);
        due("itself may be named", x.prove(0, 0, 1), 0);
        x.ask(0, 5);
        due("not true", x.prove(0, 0, 0), -12);
        x.ask(0, 4);
        x.spoil(0, 0, 0, 1);
        due("its sign is spoilt", x.prove(0, 0, 0), -15);
        x.spoil(0, 0, 0, 1);
        x.spoil(0, 1, 2, 3);
        due("its text is spoilt, a<6", x.prove(0, 0, 0), -15);
        x.spoil(0, 1, 2, 3);
        due("proved", x.prove(0, 0, 0), 0);
        x.limit(0, 6);
        due("wrong", x.prove(0, 0, 0), -11);
        for (int n : NO_EIGHTH) {
            due("no token", x.prove(n, 0, 0), BAD);
            due("no key", x.prove(0, n, 0), BAD);
        }
        for (int set : new int[] {-1, 256, 257, Integer.MIN_VALUE, Integer.MAX_VALUE, 2, 128, 3, 255}) {
            due("no set " + set, x.prove(0, 0, set), BAD);
        }
        due("a token that is not there", x.prove(1, 0, 0), BAD);
        due("nor if named", x.prove(1, 0, 2), BAD);
        x.drop(0);
        for (int t = 1; t < 8; t++) {
            x.make(t, 0, 2);
        }
        due("token 0 is not there", x.prove(1, 0, 1), BAD);
        due("nor with others", x.prove(1, 0, 255), BAD);
        due("without it", x.prove(1, 0, 254), 0);
    }

    /** Which fault is the first, and which helper is taken. */
    private static void proveOrder() {
        LimitTokens x = ready();
        x.make(3, 0, 2);
        x.others(3, 1, 3);
        due("no helper", x.prove(3, 0, 0), -13);
        x.make(1, 1, 3);
        x.make(5, 1, 3);
        x.bind(5, 3);
        due("the helper is bound", x.prove(3, 0, 32), 0);
        due("the least one is taken, it is not bound", x.prove(3, 0, 34), -14);
        dueFault(x, 1, 0, 1);
        x.bind(1, 3);
        due("now it is", x.prove(3, 0, 34), 0);
        dueFault(x, NONE, NONE, 1);
        x.others(3, 1, 3);
        due("its sign is another now", x.prove(3, 0, 34), -14);
        x.make(1, 1, 3);
        x.make(5, 1, 3);
        x.bind(1, 3);
        x.bind(5, 3);
        due("each helper is walked once", x.prove(3, 0, 34), 0);
        dueFault(x, NONE, NONE, 2);
        due("one is not enough", x.prove(3, 0, 32), -13);
        dueFault(x, 3, 1, 1);
        x.spoil(3, 1, 0, 1);
        due("no helper has that name", x.prove(3, 0, 34), -13);
        dueFault(x, 3, 0, 0);
        x.spoil(3, 1, 0, 1);
        x.spoil(3, 0, 0, 1);
        due("a spoilt sign binds no helper: 4 comes before 5", x.prove(3, 0, 34), -14);
        dueFault(x, 1, 0, 1);
        due("with another key the lock has another key", x.prove(3, 1, 34), -14);
        proveNames();
        LimitTokens y = ready();
        y.make(0, 0, 2);
        y.others(0, 1, 2);
        due("the token proved is no helper of its own", y.prove(0, 0, 1), -13);
        y.make(0, 0, 2);
        y.limit(0, 6);
        y.ask(0, 9);
        y.limit(0, 5);
        y.spoil(0, 0, 0, 1);
        due("the first limit's fault", y.prove(0, 0, 0), -11);
        dueFault(y, 0, 0, 0);
    }

    /** A helper's name must be the text, not a part of it, nor the text a part of the name. */
    private static void proveNames() {
        LimitTokens x = ready();
        x.make(7, 0, 2);
        x.others(7, 1, 3);
        for (String name : new String[] {"ban", "banks", "bani", "Bank"}) {
            set(x, 5, name);
            x.make(0, 1, 5);
            x.bind(0, 7);
            due("a helper called " + name, x.prove(7, 0, 1), -13);
        }
        x.make(0, 1, 3);
        x.bind(0, 7);
        due("token 0 as helper", x.prove(7, 0, 1), 0);
        dueFault(x, NONE, NONE, 1);
    }

    /** Eight tokens, each but the last wanting the next: the deepest walk there can be. */
    private static void proveDeep() {
        LimitTokens x = ready();
        byte[] names = bytes("stuvwxyz");
        for (int t = 0; t < 8; t++) {
            set(x, 3, new byte[] {names[t]});
            x.make(t, t == 0 ? 0 : 1, 3);
            if (t < 7) {
                set(x, 3, new byte[] {names[t + 1]});
                x.others(t, 1, 3);
            }
            if (t > 0) {
                x.bind(t, 0);
            }
        }
        due("seven deep", x.prove(0, 0, 255), 0);
        dueFault(x, NONE, NONE, 7);
        due("without itself in the set", x.prove(0, 0, 254), 0);
        due("without the last", x.prove(0, 0, 127), -13);
        dueFault(x, 6, 0, 6);
        x.spoil(7, 0, 9, 4);
        due("the last one's sign is spoilt", x.prove(0, 0, 255), -14);
        dueFault(x, 7, 0, 7);
        set(x, 3, new byte[] {names[7]});
        x.make(7, 1, 3);
        set(x, 3, new byte[] {names[1]});
        x.others(7, 1, 3);
        x.bind(7, 0);
        due("the last wants one that is being walked", x.prove(0, 0, 255), -13);
        dueFault(x, 7, 0, 7);
        set(x, 3, new byte[] {names[7]});
        x.make(7, 1, 3);
        x.limit(7, 5);
        x.bind(7, 0);
        due("the last has a limit", x.prove(0, 0, 255), 0);
        x.ask(0, 5);
        due("that is not true", x.prove(0, 0, 255), -12);
        dueFault(x, 7, 0, 7);
    }

    private static void fault() {
        LimitTokens x = ready();
        x.prove(0, 0, 0);
        dueFault(x, NONE, NONE, NONE);
        x.make(4, 0, 2);
        x.prove(4, 0, 0);
        dueFault(x, NONE, NONE, 0);
        x.limit(4, 5);
        x.others(4, 1, 3);
        x.prove(4, 0, 0);
        dueFault(x, 4, 1, 0);
        x.prove(5, 0, 0);
        dueFault(x, 4, 1, 0);
        x.make(6, 1, 3);
        x.limit(6, 5);
        x.limit(6, 6);
        x.bind(6, 4);
        due("wrong in the helper", x.prove(4, 0, 64), -11);
        dueFault(x, 6, 1, 1);
        x.make(6, 1, 3);
        x.prove(4, 0, 64);
        dueFault(x, 6, 1, 1);
        x.make(6, 1, 3);
        x.bind(6, 4);
        due("proved", x.prove(4, 0, 64), 0);
        dueFault(x, NONE, NONE, 1);
        x.make(4, 0, 2);
        x.limit(4, 5);
        x.limit(4, 5);
        due("another key", x.prove(4, 1, 64), -15);
        dueFault(x, 4, 2, 0);
        for (int what : new int[] {-1, 3, Integer.MIN_VALUE, Integer.MAX_VALUE}) {
            due("no such", x.fault(what), BAD);
        }
    }

    private static byte[] simpleTape() throws Exception {
        byte[] s = hmac(filled(32, 7), bytes("root"));
        byte[] own = hmac(s, bytes("a<5"));
        byte[] seal = hmac(own, bytes("bank"));
        byte[] lock = xor(filled(32, 200), seal);
        byte[] sign = hmac(own, join(hmac(own, lock), seal));
        byte[] all = join(bytes("\2\2\4root\0\2\3a<5\0\2\4bank\4\40"), lock);
        return join(join(all, bytes("\0\0\6\40")), sign);
    }

    private static void write() throws Exception {
        LimitTokens x = ready();
        x.type(77, 8);
        x.make(0, 0, 2);
        due("write", x.write(0), 8 + 35);
        dueTape(x, join(bytes("\2\2\4root\0\0\6\40"), hmac(filled(32, 7), bytes("root"))));
        x.limit(0, 5);
        x.others(0, 1, 3);
        byte[] want = simpleTape();
        due("write", x.write(0), want.length);
        dueTape(x, want);
        due("the token stays", x.prove(0, 0, 0), -13);
        due("one that is not there", x.write(1), BAD);
        for (int t : NO_EIGHTH) {
            due("none", x.write(t), BAD);
        }
        due("the tape stays", x.cut(0), want.length);
        set(x, 7, filled(60, 3));
        x.make(0, 0, 7);
        for (int i = 0; i < 10; i++) {
            x.others(0, 1, 7);
        }
        due("the longest", x.write(0), 1069);
        due("it is a token", x.read(1), 10);
        due("write again", x.write(1), 1069);
    }

    private static void type() {
        LimitTokens x = new LimitTokens();
        due("type", x.type(0x1ffL, 1), 1);
        due("type", x.type(0x8877665544332211L, 8), 9);
        due("type", x.type(-2L, 2), 11);
        dueTape(x, new byte[] {-1, 0x11, 0x22, 0x33, 0x44, 0x55, 0x66, 0x77, (byte) 0x88, -2, -1});
        for (int n : new int[] {0, 9, -1, Integer.MIN_VALUE, Integer.MAX_VALUE}) {
            due("no width", x.type(0, n), BAD);
        }
        x.cut(0);
        for (int i = 1; i <= 149; i++) {
            due("type", x.type(i, 8), 8 * i);
        }
        due("type", x.type(1, 5), 1197);
        due("too many", x.type(1, 4), REFUSED);
        due("nothing came", x.tape(1197), NONE);
        due("just as many", x.type(1, 3), 1200);
        due("one more", x.type(1, 1), REFUSED);
        due("BAD goes before REFUSED", x.type(1, 9), BAD);
        due("cut", x.cut(0), 1200);
    }

    private static void tape() {
        LimitTokens x = new LimitTokens();
        due("no byte", x.tape(0), NONE);
        x.type(0xff80L, 2);
        due("byte 0", x.tape(0), 128);
        due("byte 1", x.tape(1), 255);
        for (int i : new int[] {2, -1, 1199, 1200, Integer.MIN_VALUE, Integer.MAX_VALUE}) {
            due("no byte", x.tape(i), NONE);
        }
    }

    private static void cut() {
        LimitTokens x = new LimitTokens();
        x.type(0x0807060504030201L, 8);
        due("cut nothing", x.cut(8), 0);
        due("it has not so many", x.cut(9), BAD);
        for (int n : new int[] {-1, Integer.MIN_VALUE, Integer.MAX_VALUE, 1200}) {
            due("cut", x.cut(n), BAD);
        }
        due("cut", x.cut(3), 5);
        dueTape(x, new byte[] {1, 2, 3});
        due("what went is gone", x.cut(4), BAD);
        due("type behind", x.type(9, 1), 4);
        dueTape(x, new byte[] {1, 2, 3, 9});
        due("cut all", x.cut(0), 4);
        due("cut again", x.cut(0), 0);
    }

    private static void forge() {
        LimitTokens x = new LimitTokens();
        x.type(0x0f00ffL, 3);
        due("forge", x.forge(0, 255), 0);
        due("forge", x.forge(1, 128), 128);
        due("forge", x.forge(2, 0), 15);
        dueTape(x, new byte[] {0, -128, 15});
        for (int i : new int[] {-1, 3, 1199, 1200, Integer.MIN_VALUE, Integer.MAX_VALUE}) {
            due("no byte", x.forge(i, 1), BAD);
        }
        for (int b : new int[] {-1, 256, Integer.MIN_VALUE, Integer.MAX_VALUE}) {
            due("by no byte", x.forge(0, b), BAD);
        }
        dueTape(x, new byte[] {0, -128, 15});
    }

    private static void dueRead(byte[] tape, int answer, int place) {
        LimitTokens x = ready();
        x.make(2, 1, 3);
        type(x, tape);
        due("read", x.read(2), answer);
        due("place", x.place(), place);
        due("the tape stays", x.cut(0), tape.length);
        if (answer < 0) {
            due("the token stays", x.prove(2, 1, 0), 0);
            due("its limits", x.told(2, 1), 0);
        } else {
            x.write(2);
            dueTape(x, tape);
        }
    }

    private static byte[] limits(int n, int last) {
        byte[] all = bytes("\2\2\1n\0");
        for (int i = 0; i < n; i++) {
            all = join(all, bytes("\2\1t\0"));
        }
        return join(join(all, new byte[] {(byte) last}), join(bytes("\6\40"), filled(32, 5)));
    }

    private static void read() throws Exception {
        byte[] good = simpleTape();
        dueRead(good, 2, NONE);
        dueRead(limits(0, 0), 0, NONE);
        dueRead(limits(10, 0), 10, NONE);
        dueRead(limits(10, 2), -14, 45);
        dueRead(limits(10, 1), -12, 45);
        dueRead(limits(11, 0), -14, 45);
        dueRead(Arrays.copyOf(limits(10, 2), 46), -14, 45);
        dueRead(Arrays.copyOf(limits(10, 2), 45), -11, 45);
        dueRead(Arrays.copyOf(good, good.length + 1), -15, good.length);
        dueRead(join(good, good), -15, good.length);
        for (int n = 0; n < good.length; n++) {
            dueRead(Arrays.copyOf(good, n), -11, n);
        }
        int[][] forged = {
            // place, byte, fault, its place
            {0, 0, 2, 0}, {1, 0, 2, 1}, {2, 0, 3, 2}, {2, 61, 3, 2}, {2, 255, 3, 2}, {7, 2, 2, 7},
            {8, 4, 2, 8}, {8, 6, 2, 8}, {9, 0, 3, 9}, {9, 61, 3, 9}, {13, 2, 2, 13}, {13, 1, 2, 13},
            {13, 4, 3, 14}, {15, 0, 3, 15}, {20, 0, 2, 21}, {20, 2, 2, 20}, {21, 31, 3, 21},
            {21, 33, 3, 21}, {21, 0, 3, 21}, {54, 4, 2, 54}, {55, 1, 2, 55}, {55, 4, 2, 55},
            {56, 4, 2, 56}, {57, 31, 3, 57}, {57, 33, 3, 57}, {57, 255, 3, 57},
        };
        for (int[] f : forged) {
            byte[] bad = good.clone();
            bad[f[0]] = (byte) f[1];
            dueRead(bad, -10 - f[2], f[3]);
        }
        for (int n : new int[] {1, 59, 60}) {
            byte[] all = join(new byte[] {2, 2, (byte) n}, filled(n, 0));
            dueRead(join(all, join(bytes("\0\0\6\40"), filled(32, 255))), 0, NONE);
        }
        LimitTokens x = ready();
        type(x, good);
        due("read as a new one", x.read(7), 2);
        x.make(0, 0, 2);
        x.limit(0, 5);
        x.others(0, 1, 3);
        x.make(1, 1, 3);
        x.bind(1, 7);
        due("what is read can be proved", x.prove(7, 0, 2), 0);
        for (int t : NO_EIGHTH) {
            due("read to none", x.read(t), BAD);
        }
        due("read over one that was dropped", x.drop(7) + x.read(7), 3);
        due("it is there", x.told(7, 3), 104);
        x.make(0, 0, 2);
        x.limit(0, 5);
        x.limit(0, 5);
        x.write(0);
        due("read own limits where one of others was read", x.read(7), 2);
        due("they are own ones", x.told(7, 3), 3);
        due("and as good", x.prove(7, 0, 0), 0);
    }

    private static void place() {
        LimitTokens x = new LimitTokens();
        due("before any", x.place(), NONE);
        due("BAD", x.read(8), BAD);
        due("still", x.place(), NONE);
        type(x, limits(1, 0));
        x.type(0, 1);
        due("read", x.read(0), -15);
        due("place", x.place(), 44);
        due("BAD", x.read(-1), BAD);
        due("as before", x.place(), 44);
        x.cut(44);
        due("the tape alone changes nothing", x.place(), 44);
        due("read", x.read(0), 1);
        due("without a fault", x.place(), NONE);
        x.cut(0);
        due("read", x.read(0), -11);
        due("at the tape's length", x.place(), 0);
    }
}
