/** The sentences of promises 1 to 6 that name an edge: registers, the hash and the seal. */
public final class EdgesOfRegisters extends Sentences {
    public static void main(String[] args) {
        newObject();
        add();
        clear();
        at();
        hash();
        seal();
        end();
    }

    private static void newObject() {
        sentence("1 a new object", "Registers and the tape without bytes");
        for (int r = 0; r < 8; r++) {
            due("at", new Counted().at(r, 0), NONE);
            due("clear", new Counted().clear(r), 0);
            due("add", new Counted().add(r, 1, 5), 1);
            due("truth", new Counted().truth(r), NONE);
            due("a name of it", new Counted().make(0, 0, r), REFUSED);
        }
        due("tape", new Counted().tape(0), NONE);
        due("cut of nothing", new Counted().cut(0), 0);
        due("cut of a byte", new Counted().cut(1), BAD);
        due("forge", new Counted().forge(0, 1), BAD);
        due("type", new Counted().type(5, 1), 1);
        due("read", new Counted().read(0), -11);

        sentence("1 a new object", "no tokens");
        for (int t = 0; t < 8; t++) {
            due("drop", new Counted().drop(t), 0);
            due("told", new Counted().told(t, 0), BAD);
            due("sign", new Counted().sign(t, 0), BAD);
            due("write", new Counted().write(t), BAD);
            due("copy", new Counted().copy(t, t), BAD);
            due("bind", new Counted().bind(t, t), BAD);
            due("prove", new Counted().prove(t, 0, 0), BAD);
            due("spoil", new Counted().spoil(t, 0, 0, 0), BAD);
            Counted x = new Counted().put(0, "k");
            due("limit", x.limit(t, 0), BAD);
            x.make(7 - t, 0, 0);
            due("prove with a helper", x.prove(7 - t, 0, 1 << t), BAD);
        }

        sentence("1 a new object", "LimitTokens()");
        Counted used = new Counted().put(3, "used");
        used.make(2, 3, 3);
        used.write(2);
        used.ask(1, 9);
        used.prove(2, 0, 0);
        used.forge(0, 255);
        used.read(2);
        Counted fresh = new Counted();
        due("a register of a second object", fresh.clear(3), 0);
        due("a token of it", fresh.drop(2), 0);
        due("its tape", fresh.cut(0), 0);
        due("its request", fresh.ask(1, 0), 0);
        due("its place", fresh.place(), NONE);
        dueFault(fresh, NONE, NONE, NONE);
        due("the first one's register", used.clear(3), 4);
        due("its token", used.told(2, 0), 4);
        due("its request", used.ask(1, 0), 9);
        due("its place", used.place(), 0);
        dueFault(used, 2, 0, 0);
    }

    private static void add() {
        sentence("2 add", "The n (1 .. 8) lowest bytes of w");
        for (int n = 1; n <= 8; n++) {
            for (long w : new long[] {0, -1, 0x8182838485868788L, Long.MIN_VALUE, Long.MAX_VALUE}) {
                Counted x = new Counted();
                due("add of " + n, x.add(4, n, w), n);
                byte[] want = new byte[n];
                for (int i = 0; i < n; i++) {
                    want[i] = (byte) (w >> 8 * i);
                }
                due("add of " + n + " of " + w, x.register(4), want);
            }
        }
        for (int n : NOT_1_TO_8) {
            Counted x = new Counted().put(4, "as before");
            due("add of " + n, x.add(4, n, 1), BAD);
            due("the register", x.register(4), bytes("as before"));
        }

        sentence("2 add", "the lowest first, come behind a register's");
        Counted x = new Counted();
        due("add", x.add(7, 8, 0x0807060504030201L), 8);
        due("add", x.add(7, 1, 0x1ffL), 9);
        due("add", x.add(7, 2, 0xfedcbaL), 11);
        due("the register", x.register(7), bytes(1, 2, 3, 4, 5, 6, 7, 8, 0xff, 0xba, 0xdc));
        due("the one before it", x.clear(6), 0);

        sentence("2 add", "REFUSED: it would have more than 100");
        for (int n = 1; n <= 8; n++) {
            x = new Counted().put(0, mixed(100 - n, n));
            due("add that makes 100", x.add(0, n, -1), 100);
            due("the register", x.register(0), join(mixed(100 - n, n), filled(n, 255)));
            x = new Counted().put(0, mixed(101 - n, n));
            due("add that would make 101", x.add(0, n, -1), REFUSED);
            due("the register", x.register(0), mixed(101 - n, n));
            if (n > 1) {
                due("one less has room", x.add(0, n - 1, 0), 100);
            }
            due("another register has room", x.add(1, n, 0), n);
        }

        sentence("2 add", "BAD");
        for (int r : NOT_0_TO_7) {
            due("add to register " + r, new Counted().add(r, 1, 1), BAD);
            due("add to register " + r, new Counted().add(r, 9, 1), BAD);
        }
        for (int r = 0; r < 8; r++) {
            due("add to register " + r, new Counted().add(r, 1, 1), 1);
        }
    }

    private static void clear() {
        sentence("3 clear", "A register is without bytes: how many it had");
        for (int n : new int[] {0, 1, 8, 32, 99, 100}) {
            Counted x = new Counted().put(2, mixed(n, 1)).put(3, "stays");
            due("clear", x.clear(2), n);
            due("its first byte", x.at(2, 0), NONE);
            due("its last byte", x.at(2, n - 1), NONE);
            due("clear again", x.clear(2), 0);
            due("a byte comes first", x.add(2, 1, 77), 1);
            due("what was does not come again", x.register(2), bytes(77));
            due("there is room for 100 again", x.put(2, mixed(100, 2)).add(2, 1, 1), REFUSED);
            due("the next one", x.register(3), bytes("stays"));
        }

        sentence("3 clear", "BAD");
        for (int r : NOT_0_TO_7) {
            due("clear of register " + r, new Counted().clear(r), BAD);
        }
    }

    private static void at() {
        sentence("4 at", "Byte i of a register; NONE");
        for (int n : new int[] {0, 1, 60, 99, 100}) {
            Counted x = new Counted().put(5, mixed(n, 9)).put(6, mixed(100, 1));
            for (int i = 0; i < n; i++) {
                due("byte " + i, x.at(5, i), mixed(n, 9)[i] & 255);
            }
            for (int i : new int[] {-1, n, n + 1, 100, 101, LEAST, MOST}) {
                due("byte " + i + " of " + n, x.at(5, i), NONE);
            }
        }
        Counted y = new Counted().put(0, bytes(0, 127, 128, 255));
        due("a byte 0 is not NONE", y.at(0, 0), 0);
        due("127", y.at(0, 1), 127);
        due("128 is not below 0", y.at(0, 2), 128);
        due("255 is not NONE", y.at(0, 3), 255);

        sentence("4 at", "BAD: no such register");
        for (int r : NOT_0_TO_7) {
            for (int i : new int[] {0, -1, 100, LEAST, MOST}) {
                due("at(" + r + ", " + i + ")", new Counted().at(r, i), BAD);
            }
        }
    }

    private static void hash() {
        sentence("5 hash", "comes to another one (or the same): 32");
        for (int n : new int[] {0, 1, 31, 32, 33, 55, 56, 63, 64, 65, 99, 100}) {
            byte[] m = mixed(n, 3);
            Counted x = new Counted().put(0, m).put(7, mixed(100, 8));
            due("hash to another", x.hash(7, 0), 32);
            due("nothing of what was is left", x.register(7), hashOf(m));
            due("the register that was hashed", x.register(0), m);
            x = new Counted().put(7, m);
            due("hash to the same", x.hash(7, 7), 32);
            due("nothing of what was is left", x.register(7), hashOf(m));
            due("there is room behind it", x.add(7, 8, 0), 40);
        }

        sentence("5 hash", "BAD");
        for (int r : NOT_0_TO_7) {
            Counted x = new Counted().put(0, "as before");
            due("hash to register " + r, x.hash(r, 0), BAD);
            due("hash of register " + r, x.hash(0, r), BAD);
            due("neither", x.hash(r, r), BAD);
            due("the register", x.register(0), bytes("as before"));
        }
    }

    private static void seal() {
        sentence("6 seal", "THE SEAL(k, m) of two registers comes to one: 32");
        for (int n : new int[] {0, 1, 32, 63, 64, 65, 100}) {
            byte[] k = mixed(n, 4);
            byte[] m = mixed(100 - n, 5);
            Counted x = new Counted().put(0, k).put(1, m).put(7, mixed(100, 6));
            due("seal to a third", x.seal(7, 0, 1), 32);
            due("nothing of what was is left", x.register(7), sealOf(k, m));
            due("the key", x.register(0), k);
            due("the message", x.register(1), m);
            due("seal to the key", new Counted().put(0, k).put(1, m).seal(0, 0, 1), 32);
            x = new Counted().put(0, k).put(1, m);
            x.seal(0, 0, 1);
            due("it came to the key", x.register(0), sealOf(k, m));
            due("the message", x.register(1), m);
            x = new Counted().put(0, k).put(1, m);
            due("seal to the message", x.seal(1, 0, 1), 32);
            due("it came to the message", x.register(1), sealOf(k, m));
            due("the key", x.register(0), k);
            x = new Counted().put(3, k);
            due("key and message are one", x.seal(4, 3, 3), 32);
            due("the seal", x.register(4), sealOf(k, k));
            due("all three are one", x.seal(3, 3, 3), 32);
            due("the seal", x.register(3), sealOf(k, k));
        }

        sentence("6 seal", "BAD");
        for (int r : NOT_0_TO_7) {
            Counted x = new Counted().put(0, "as before").put(1, "key").put(2, "message");
            due("seal to register " + r, x.seal(r, 1, 2), BAD);
            due("seal by register " + r, x.seal(0, r, 2), BAD);
            due("seal of register " + r, x.seal(0, 1, r), BAD);
            due("the register", x.register(0), bytes("as before"));
        }
    }
}
