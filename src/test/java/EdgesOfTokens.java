/** The sentences on tokens that name an edge: "Terms", ==== 2, and promises 7 to 15. */
public final class EdgesOfTokens extends Sentences {
    private static final byte[] KEY = mixed(32, 70);
    private static final byte[] OTHER_KEY = mixed(32, 71);

    public static void main(String[] args) {
        parts();
        make();
        limit();
        others();
        bind();
        copy();
        drop();
        told();
        sign();
        spoil();
        end();
    }

    /** Registers 0 and 1 have keys of 32 bytes, 2 "root", 3 "bank", 4 "a<5", 5 none; token 0 is made. */
    private static Counted ready() {
        Counted x = new Counted().put(0, KEY).put(1, OTHER_KEY).put(2, "root").put(3, "bank").put(4, "a<5");
        x.make(0, 0, 2);
        return x;
    }

    private static byte[] rootSign() {
        return sealOf(KEY, bytes("root"));
    }

    private static void parts() {
        sentence("Terms, 2", "A TOKEN has a NAME (1 to 60 bytes)");
        for (int n : new int[] {1, 2, 59, 60}) {
            Counted x = ready().put(5, mixed(n, n));
            due("a name of " + n, x.make(7, 0, 5), 0);
            due("its length", x.told(7, 0), n);
            byte[] want = join(bytes(2, 2, n), mixed(n, n), bytes(0, 0, 6, 32), sealOf(KEY, mixed(n, n)));
            due("the token", x.bytesOf(7), want);
        }
        for (int n : new int[] {0, 61, 62, 99, 100}) {
            Counted x = ready().put(5, mixed(n, n));
            due("a name of " + n, x.make(7, 0, 5), REFUSED);
            due("it is not there", x.told(7, 0), BAD);
        }

        sentence("Terms, 2", "up to 10 LIMITS");
        for (int own = 0; own <= 10; own++) {
            Counted x = ready();
            byte[] s = rootSign();
            for (int i = 0; i < 10; i++) {
                boolean isOwn = i < own;
                due("limit " + i, isOwn ? x.limit(0, 4) : x.others(0, 1, 3), i + 1);
                s = isOwn ? sealOf(s, bytes("a<5")) : signBehindOthers(s, OTHER_KEY, bytes("bank"));
            }
            due("an own eleventh", x.limit(0, 4), REFUSED);
            due("an eleventh of others", x.others(0, 1, 3), REFUSED);
            due("its limits", x.told(0, 1), 10);
            due("its sign", x.signOf(0), s);
        }

        sentence("Terms, 2", "a SIGN of 32 bytes");
        Counted x = ready();
        due("its sign", x.signOf(0), rootSign());
        due("a byte behind it", x.sign(0, 32), BAD);
        due("it is spoilt there", x.spoil(0, 0, 32, 1), BAD);

        sentence("Terms, 2", "An OWN limit is a TEXT of 1 to 60 bytes");
        for (int n : new int[] {1, 2, 59, 60}) {
            x = ready().put(5, mixed(n, n));
            due("a text of " + n, x.limit(0, 5), 1);
            due("its sign", x.signOf(0), sealOf(rootSign(), mixed(n, n)));
            due("its length", x.told(0, 2), n);
        }
        for (int n : new int[] {0, 61, 62, 99, 100}) {
            x = ready().put(5, mixed(n, n));
            due("a text of " + n, x.limit(0, 5), REFUSED);
            due("its sign", x.signOf(0), rootSign());
        }

        sentence("Terms, 2", "A limit OF OTHERS has a TEXT (1 to 60 bytes) and a LOCK of 32 bytes");
        for (int n : new int[] {1, 2, 59, 60}) {
            byte[] text = mixed(n, n);
            x = ready().put(5, text);
            due("a text of " + n, x.others(0, 1, 5), 1);
            due("its length", x.told(0, 2), 100 + n);
            byte[] want = join(bytes("\2\2\4root\0"), bytes(2, n), text, bytes(4, 32),
                    lockOf(rootSign(), OTHER_KEY, text), bytes(0, 0, 6, 32),
                    signBehindOthers(rootSign(), OTHER_KEY, text));
            due("the token", x.bytesOf(0), want);
        }
        for (int n : new int[] {0, 61, 62, 99, 100}) {
            x = ready().put(5, mixed(n, n));
            due("a text of " + n, x.others(0, 1, 5), REFUSED);
            due("its sign", x.signOf(0), rootSign());
        }

        sentence("Terms, 2", "it is made with a key of 32 bytes");
        for (int n : new int[] {0, 1, 31, 33, 64, 100}) {
            x = ready().put(5, mixed(n, n));
            due("a key of " + n, x.others(0, 5, 3), REFUSED);
            due("its sign", x.signOf(0), rootSign());
        }
        for (int b : new int[] {0, 255}) {
            x = ready().put(5, filled(32, b));
            due("a key of 32 bytes " + b, x.others(0, 5, 3), 1);
            due("its sign", x.signOf(0), signBehindOthers(rootSign(), filled(32, b), bytes("bank")));
        }

        sentence("Terms, 2", "its sign s becomes SEAL(32 bytes 0, the other one's sign and s behind it)");
        x = ready();
        x.make(1, 1, 3);
        due("bind", x.bind(1, 0), 0);
        due("the sign that is bound", x.signOf(1), boundSign(sealOf(OTHER_KEY, bytes("bank")), rootSign()));
        due("the other one's sign", x.signOf(0), rootSign());
    }

    private static void make() {
        sentence("7 make", "A token is made, instead of what was");
        for (int t = 0; t < 8; t++) {
            Counted x = ready();
            x.make(t, 1, 3);
            for (int i = 0; i < 10; i++) {
                due("a limit", x.others(t, 1, 3), i + 1);
            }
            due("make", x.make(t, 0, 2), 0);
            due("its limits", x.told(t, 1), 0);
            for (int what = 2; what <= 11; what++) {
                due("limit " + (what - 2), x.told(t, what), 0);
            }
            due("the token", x.bytesOf(t), join(bytes("\2\2\4root\0\0\6\40"), rootSign()));
            due("a limit again", x.limit(t, 4), 1);
            due("it is an own one", x.told(t, 2), 3);
        }

        sentence("7 make", "with a register as key and one as NAME: 0");
        for (int n : new int[] {0, 1, 63, 64, 65, 100}) {
            Counted x = new Counted().put(0, mixed(n, 2)).put(1, "name");
            due("a key of " + n, x.make(3, 0, 1), 0);
            due("its sign", x.signOf(3), sealOf(mixed(n, 2), bytes("name")));
        }
        Counted x = new Counted().put(7, "both");
        due("key and name are one register", x.make(3, 7, 7), 0);
        x.clear(7);
        due("its sign", x.signOf(3), sealOf(bytes("both"), bytes("both")));
        due("its name", x.told(3, 0), 4);

        sentence("7 make", "REFUSED: the name has not 1 .. 60 bytes");
        for (int n : new int[] {0, 61, 100}) {
            x = ready().put(5, mixed(n, 1));
            x.limit(0, 4);
            due("a name of " + n, x.make(0, 1, 5), REFUSED);
            due("the token that was", x.bytesOf(0),
                    join(bytes("\2\2\4root\0\2\3a<5\0\0\6\40"), sealOf(rootSign(), bytes("a<5"))));
            due("a new one", x.make(6, 1, 5), REFUSED);
            due("is not there", x.drop(6), 0);
        }
        for (int n : new int[] {1, 60}) {
            due("a name of " + n, ready().put(5, mixed(n, 1)).make(0, 1, 5), 0);
        }

        sentence("7 make", "BAD");
        for (int n : NOT_0_TO_7) {
            due("token " + n, ready().make(n, 0, 2), BAD);
            due("key " + n, ready().make(0, n, 2), BAD);
            due("name " + n, ready().make(0, 0, n), BAD);
        }
    }

    private static void limit() {
        sentence("8 limit", "a register being its TEXT: how many limits it has");
        Counted x = ready();
        for (int i = 1; i <= 10; i++) {
            x.put(5, mixed(i, i));
            due("limit", x.limit(0, 5), i);
        }
        x.clear(5);
        for (int i = 1; i <= 10; i++) {
            due("limit " + (i - 1), x.told(0, i + 1), i);
        }
        x = ready().put(5, "this is a WRONG text");
        due("no text is looked at", x.limit(0, 5), 1);

        sentence("8 limit", "REFUSED: the text has not 1 .. 60 bytes");
        for (int n : new int[] {0, 61, 100}) {
            x = ready().put(5, mixed(n, 1));
            due("a text of " + n, x.limit(0, 5), REFUSED);
            due("its limits", x.told(0, 1), 0);
            due("its first limit", x.told(0, 2), 0);
        }
        for (int n : new int[] {1, 60}) {
            due("a text of " + n, ready().put(5, mixed(n, 1)).limit(0, 5), 1);
        }

        sentence("8 limit", "or it has 10");
        x = ready();
        x.make(7, 0, 2);
        for (int i = 1; i <= 10; i++) {
            due("limit", x.limit(0, 4), i);
        }
        byte[] full = x.signOf(0);
        due("an eleventh", x.limit(0, 4), REFUSED);
        due("once more", x.limit(0, 2), REFUSED);
        due("its sign", x.signOf(0), full);
        due("its limits", x.told(0, 1), 10);
        due("its last limit", x.told(0, 11), 3);
        due("another token has room", x.limit(7, 4), 1);

        sentence("8 limit", "BAD");
        for (int n : NOT_0_TO_7) {
            due("token " + n, ready().limit(n, 4), BAD);
            due("text " + n, ready().limit(0, n), BAD);
        }
        for (int t = 1; t < 8; t++) {
            due("token " + t + " is not there", ready().limit(t, 4), BAD);
        }
    }

    private static void others() {
        sentence("9 others", "with registers as key and TEXT: how many limits it has");
        Counted x = ready();
        for (int i = 1; i <= 10; i++) {
            x.put(5, mixed(i, i));
            due("others", x.others(0, 1, 5), i);
        }
        x.clear(5);
        for (int i = 1; i <= 10; i++) {
            due("limit " + (i - 1), x.told(0, i + 1), 100 + i);
        }
        x = ready();
        due("key and text are one register", x.others(0, 1, 1), 1);
        due("its sign", x.signOf(0), signBehindOthers(rootSign(), OTHER_KEY, OTHER_KEY));
        due("the register stays", x.register(1), OTHER_KEY);

        sentence("9 others", "REFUSED: also the key has not 32 bytes");
        for (int n = 0; n <= 100; n++) {
            x = ready().put(5, mixed(n, 1));
            due("a key of " + n, x.others(0, 5, 3), n == 32 ? 1 : REFUSED);
            due("its limits", x.told(0, 1), n == 32 ? 1 : 0);
        }
        for (int n = 0; n <= 100; n++) {
            x = ready().put(5, mixed(n, 1));
            boolean good = n >= 1 && n <= 60;
            due("a text of " + n, x.others(0, 1, 5), good ? 1 : REFUSED);
            due("its limits", x.told(0, 1), good ? 1 : 0);
        }
        x = ready();
        for (int i = 1; i <= 10; i++) {
            due("others", x.others(0, 1, 3), i);
        }
        byte[] full = x.signOf(0);
        due("an eleventh", x.others(0, 1, 3), REFUSED);
        due("an eleventh with a wrong key", x.others(0, 2, 3), REFUSED);
        due("its sign", x.signOf(0), full);
        due("its limits", x.told(0, 1), 10);

        sentence("9 others", "BAD");
        for (int n : NOT_0_TO_7) {
            due("token " + n, ready().others(n, 1, 3), BAD);
            due("key " + n, ready().others(0, n, 3), BAD);
            due("text " + n, ready().others(0, 1, n), BAD);
        }
        for (int t = 1; t < 8; t++) {
            due("token " + t + " is not there", ready().others(t, 1, 3), BAD);
        }
    }

    private static void bind() {
        sentence("10 bind", "A token is BOUND to another one (or itself): 0");
        Counted x = ready();
        x.limit(0, 4);
        byte[] before = sealOf(rootSign(), bytes("a<5"));
        due("bind to itself", x.bind(0, 0), 0);
        byte[] once = boundSign(before, before);
        due("its sign", x.signOf(0), once);
        due("once more", x.bind(0, 0), 0);
        due("its sign", x.signOf(0), boundSign(once, once));
        due("its limits", x.told(0, 1), 1);
        due("its name", x.told(0, 0), 4);
        x = ready();
        x.make(7, 1, 3);
        byte[] bank = sealOf(OTHER_KEY, bytes("bank"));
        due("7 to 0", x.bind(7, 0), 0);
        due("the sign of 7", x.signOf(7), boundSign(bank, rootSign()));
        due("0 to 7", x.bind(0, 7), 0);
        due("the sign of 0", x.signOf(0), boundSign(rootSign(), boundSign(bank, rootSign())));

        sentence("10 bind", "BAD");
        for (int n : NOT_0_TO_7) {
            due("bind " + n, ready().bind(n, 0), BAD);
            due("bind to " + n, ready().bind(0, n), BAD);
        }
        for (int t = 1; t < 8; t++) {
            due("bind " + t + ", not there", ready().bind(t, 0), BAD);
            due("bind to " + t + ", not there", ready().bind(0, t), BAD);
            due("bind to itself, not there", ready().bind(t, t), BAD);
        }
    }

    private static void copy() {
        sentence("11 copy", "Token to becomes as token t is: how many limits");
        Counted x = ready();
        due("copy of one without limits", x.copy(0, 7), 0);
        x.make(6, 0, 3);
        for (int i = 1; i <= 10; i++) {
            x.others(6, 1, 2);
        }
        byte[] sign = x.signOf(6);
        due("copy of a full one", x.copy(6, 7), 10);
        due("its sign", x.signOf(7), sign);
        due("its last limit", x.told(7, 11), 104);
        due("it is full, too", x.limit(7, 4), REFUSED);
        due("copy over it of one without limits", x.copy(0, 7), 0);
        due("its first limit", x.told(7, 2), 0);
        due("its last limit", x.told(7, 11), 0);
        due("its sign", x.signOf(7), rootSign());
        due("a limit of the copy", x.limit(7, 4), 1);
        due("it is an own one", x.told(7, 2), 3);
        due("the one it was copied of", x.told(0, 1), 0);
        due("its sign", x.signOf(0), rootSign());
        due("what is dropped leaves the copy", x.drop(0) + x.told(7, 1), 2);
        x = ready();
        x.limit(0, 4);
        x.others(0, 1, 3);
        byte[] all = x.bytesOf(0);
        due("copy to itself", x.copy(0, 0), 2);
        due("it is as it was", x.bytesOf(0), all);

        sentence("11 copy", "BAD: t is not there");
        for (int t = 1; t < 8; t++) {
            x = ready();
            due("copy of " + t, x.copy(t, 0), BAD);
            due("the other one stays", x.told(0, 0), 4);
            due("to itself", x.copy(t, t), BAD);
            due("it is not there", x.told(t, 0), BAD);
            due("to it", x.copy(0, t), 0);
            due("it is there", x.told(t, 0), 4);
        }
        for (int n : NOT_0_TO_7) {
            due("copy of " + n, ready().copy(n, 0), BAD);
            due("copy to " + n, ready().copy(0, n), BAD);
        }
    }

    private static void drop() {
        sentence("12 drop", "A token is there no more: whether it was (1, 0)");
        for (int t = 0; t < 8; t++) {
            Counted x = ready();
            due("one that is not there", t == 0 ? 0 : x.drop(t), 0);
            x.make(t, 0, 2);
            x.limit(t, 4);
            due("one that is there", x.drop(t), 1);
            due("once more", x.drop(t), 0);
            due("told", x.told(t, 1), BAD);
            due("sign", x.sign(t, 0), BAD);
            due("limit", x.limit(t, 4), BAD);
            due("others", x.others(t, 1, 3), BAD);
            due("bind", x.bind(t, t), BAD);
            due("copy", x.copy(t, t), BAD);
            due("spoil", x.spoil(t, 0, 0, 1), BAD);
            due("prove", x.prove(t, 0, 0), BAD);
            due("write", x.write(t), BAD);
            due("make", x.make(t, 1, 3), 0);
            due("its limits", x.told(t, 1), 0);
            due("its sign", x.signOf(t), sealOf(OTHER_KEY, bytes("bank")));
            due("the others", t == 0 ? 4 : x.told(0, 0), 4);
        }

        sentence("12 drop", "BAD: no such number");
        for (int n : NOT_0_TO_7) {
            due("drop of " + n, ready().drop(n), BAD);
        }
    }

    private static void told() {
        sentence("13 told", "what = 0 how many bytes its NAME has, 1 how many limits");
        for (int n : new int[] {1, 60}) {
            Counted x = ready().put(5, mixed(n, 1));
            x.make(0, 0, 5);
            due("its name", x.told(0, 0), n);
            for (int limits = 0; limits <= 10; limits++) {
                due("its limits", x.told(0, 1), limits);
                x.limit(0, 4);
            }
        }

        sentence("13 told", "2 .. 11: limit what - 2: how many bytes its text has, 100 more if it is of others");
        int[] lengths = {1, 2, 32, 59, 60, 60, 59, 32, 2, 1};
        Counted x = ready();
        for (int i = 0; i < 10; i++) {
            x.put(5, mixed(lengths[i], i));
            due("limit " + i, i % 2 == 0 ? x.limit(0, 5) : x.others(0, 1, 5), i + 1);
        }
        for (int i = 0; i < 10; i++) {
            due("limit " + i, x.told(0, i + 2), lengths[i] + i % 2 * 100);
        }

        sentence("13 told", "0: there is none such");
        for (int limits = 0; limits <= 10; limits++) {
            x = ready();
            for (int i = 0; i < limits; i++) {
                x.limit(0, 4);
            }
            for (int what = 2; what <= 11; what++) {
                due("told " + what + " of " + limits, x.told(0, what), what - 2 < limits ? 3 : 0);
            }
        }

        sentence("13 told", "BAD");
        for (int what : new int[] {-1, 12, 13, 100, LEAST, MOST}) {
            due("told " + what, ready().told(0, what), BAD);
            due("told " + what + " of a full one", x.told(0, what), BAD);
        }
        for (int n : NOT_0_TO_7) {
            due("told of " + n, ready().told(n, 0), BAD);
        }
        for (int t = 1; t < 8; t++) {
            for (int what = 0; what <= 11; what++) {
                due("told of one that is not there", ready().told(t, what), BAD);
            }
        }
    }

    private static void sign() {
        sentence("14 sign", "Byte i (0 .. 31) of a token's SIGN");
        Counted x = ready();
        for (int i = 0; i < 32; i++) {
            due("byte " + i, x.sign(0, i), rootSign()[i] & 255);
        }
        for (int i : new int[] {-1, 32, 33, LEAST, MOST}) {
            due("byte " + i, x.sign(0, i), BAD);
        }

        sentence("14 sign", "BAD");
        for (int n : NOT_0_TO_7) {
            due("sign of " + n, ready().sign(n, 0), BAD);
        }
        for (int t = 1; t < 8; t++) {
            due("sign of one that is not there", ready().sign(t, 0), BAD);
            due("sign of one that is not there", ready().sign(t, 31), BAD);
        }
    }

    /** Token 0 has ten limits with texts of 1, 7, 13, .. 55 and, as the last, 60 bytes. */
    private static Counted spoilable() {
        Counted x = ready();
        for (int i = 0; i < 10; i++) {
            x.put(5, mixed(spoilableLength(i), i));
            if (i % 2 == 0) {
                x.limit(0, 5);
            } else {
                x.others(0, 1, 5);
            }
        }
        return x;
    }

    private static int spoilableLength(int i) {
        return i == 9 ? 60 : 1 + 6 * i;
    }

    /** Where byte i of limit k - 1's text is in the token as bytes; k = 0: of the sign. */
    private static int spoilablePlace(int k, int i) {
        int place = 8;
        for (int limit = 0; limit < (k == 0 ? 10 : k - 1); limit++) {
            place += 3 + spoilableLength(limit) + limit % 2 * 34;
        }
        return place + (k == 0 ? 3 : 2) + i;
    }

    private static void spoil() {
        sentence("15 spoil", "A byte of a token's SIGN (i 0 .. 31), or of the text of limit k - 1 (k 1 .. 10)");
        int n = spoilable().write(0);
        for (int k = 0; k <= 10; k++) {
            int length = k == 0 ? 32 : spoilableLength(k - 1);
            for (int i : new int[] {0, length / 2, length - 1}) {
                Counted x = spoilable();
                x.write(0);
                int place = spoilablePlace(k, i);
                int was = x.tape(place);
                due("spoil(0, " + k + ", " + i + ", 77)", x.spoil(0, k, i, 77), was ^ 77);
                x.write(0);
                due("it is that byte", x.tape(place), was ^ 77);
                due("what it is then", x.spoil(0, k, i, 0), was ^ 77);
            }
        }

        sentence("15 spoil", "becomes itself ^ x (0 .. 255)");
        for (int x : new int[] {0, 1, 127, 128, 254, 255}) {
            Counted c = spoilable();
            int sign = c.sign(0, 31);
            due("the sign ^ " + x, c.spoil(0, 0, 31, x), sign ^ x);
            due("the sign", c.sign(0, 31), sign ^ x);
            due("once more", c.spoil(0, 0, 31, x), sign);
            int last = mixed(60, 9)[59] & 255;
            due("a text ^ " + x, c.spoil(0, 10, 59, x), last ^ x);
            due("once more", c.spoil(0, 10, 59, x), last);
        }
        for (int x : NOT_A_BYTE) {
            due("the sign ^ " + x, spoilable().spoil(0, 0, 0, x), BAD);
            due("a text ^ " + x, spoilable().spoil(0, 1, 0, x), BAD);
        }

        sentence("15 spoil", "nothing else (k = 0: the sign)");
        for (int k = 0; k <= 10; k++) {
            for (int from = 0; from < n; from += 300) {
                int to = Math.min(n, from + 300);
                Counted x = spoilable();
                x.copy(0, 7);
                x.write(0);
                byte[] want = x.tapeFrom(from, to);
                x = spoilable();
                x.copy(0, 7);
                x.spoil(0, k, 0, 85);
                int place = spoilablePlace(k, 0);
                if (place >= from && place < to) {
                    want[place - from] ^= 85;
                }
                x.write(0);
                due("the token from " + from, x.tapeFrom(from, to), want);
            }
            Counted x = spoilable();
            x.copy(0, 7);
            x.spoil(0, k, 0, 85);
            x.put(0, x.signOf(7));
            due("the copy's sign is as before", x.register(0), spoilable().signOf(0));
            due("the copy's byte is as before", x.spoil(7, k, 0, 0) ^ x.spoil(0, k, 0, 0), 85);
        }

        sentence("15 spoil", "BAD: there is none such");
        for (int k = 0; k <= 10; k++) {
            int length = k == 0 ? 32 : spoilableLength(k - 1);
            for (int i : new int[] {-1, length, length + 1, LEAST, MOST}) {
                due("spoil(0, " + k + ", " + i + ", 1)", spoilable().spoil(0, k, i, 1), BAD);
            }
        }
        for (int k : new int[] {-1, 11, LEAST, MOST}) {
            due("spoil(0, " + k + ", 0, 1)", spoilable().spoil(0, k, 0, 1), BAD);
        }
        for (int limits = 0; limits < 10; limits++) {
            Counted x = ready();
            for (int i = 0; i < limits; i++) {
                x.limit(0, 4);
            }
            due("the last limit", limits == 0 ? 'a' : x.spoil(0, limits, 0, 0), 'a');
            due("one behind the last limit", x.spoil(0, limits + 1, 0, 0), BAD);
        }
        Counted two = spoilable();
        two.make(7, 0, 2);
        two.limit(7, 4);
        due("the only limit of 7", two.spoil(7, 1, 2, 0), '5');
        due("a second one, that 0 has", two.spoil(7, 2, 0, 0), BAD);
        two.make(0, 0, 2);
        due("the only limit of 7", two.spoil(7, 1, 2, 0), '5');
        due("one of 0, that 7 has", two.spoil(0, 1, 2, 0), BAD);
        Counted made = spoilable();
        made.make(0, 0, 2);
        due("a limit that was before make", made.spoil(0, 1, 0, 1), BAD);
        for (int t : NOT_0_TO_7) {
            due("spoil of " + t, ready().spoil(t, 0, 0, 1), BAD);
        }
        for (int t = 1; t < 8; t++) {
            due("spoil of one that is not there", ready().spoil(t, 0, 0, 1), BAD);
        }
    }
}
