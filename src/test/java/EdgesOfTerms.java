import java.util.Arrays;
import java.util.function.ToIntFunction;

/**
 * The sentences that name an edge in the document's head and in its "Terms" up to the
 * seal, and the one on BAD and REFUSED that holds for all calls.
 */
public final class EdgesOfTerms extends Sentences {
    public static void main(String[] args) {
        callsOfOneObject();
        rooms();
        words();
        filling();
        keysOfSeals();
        badThenRefused();
        badLeavesAll();
        refusedLeavesAll();
        end();
    }

    private static void callsOfOneObject() {
        sentence("What it is", "An object is used for at most 512 calls after it has been made");
        Counted x = new Counted();
        while (x.callsLeft() > 3) {
            due("add", x.add(0, 8, 5), 8);
            due("clear", x.clear(0), 8);
        }
        while (x.callsLeft() > 1) {
            x.add(0, 1, 9);
        }
        due("the 512th call", x.at(0, 0), 9);
        Counted y = wantsSevenDeep();
        while (y.callsLeft() > 4) {
            due("prove", y.prove(0, 0, 255), 0);
        }
        dueFault(y, NONE, NONE, 7);
        due("the 512th call", y.prove(0, 0, 127), -13);
        Counted z = rich();
        while (z.callsLeft() > 1) {
            due("read", z.read(4), -15);
        }
        due("the 512th call", z.place(), RICH_PLACE);
    }

    /** Token 0 wants 1, that wants 2, and so on to 7; all but 0 are bound to 0. */
    private static Counted wantsSevenDeep() {
        Counted x = new Counted().put(0, filled(32, 7)).put(1, filled(32, 200));
        for (int t = 0; t < 8; t++) {
            x.put(2, bytes('s' + t)).put(3, bytes('s' + t + 1));
            x.make(t, t == 0 ? 0 : 1, 2);
            if (t < 7) {
                x.others(t, 1, 3);
            }
            if (t > 0) {
                x.bind(t, 0);
            }
        }
        return x;
    }

    private static void rooms() {
        sentence("Terms", "BYTES are 0 .. 255");
        Counted x = new Counted();
        byte[] all = new byte[256];
        for (int b = 0; b < 256; b++) {
            all[b] = (byte) b;
        }
        x.put(0, Arrays.copyOfRange(all, 0, 100)).put(1, Arrays.copyOfRange(all, 100, 200));
        x.put(2, Arrays.copyOfRange(all, 200, 256));
        for (int b = 0; b < 256; b++) {
            due("byte " + b + " of a register", x.at(b / 100, b % 100), b);
        }
        x = new Counted().typeAll(all);
        for (int b = 0; b < 256; b++) {
            due("byte " + b + " of the tape", x.tape(b), b);
        }
        x = new Counted().put(0, "k").put(1, "n");
        x.make(0, 0, 1);
        int sign = x.sign(0, 0);
        for (int b = 0; b < 256; b++) {
            due("byte " + b + " of a sign", x.spoil(0, 0, 0, sign ^ b), b);
            sign = b;
        }

        sentence("Terms", "REGISTERS 0 .. 7 have up to 100 of them each");
        x = new Counted();
        for (int r = 0; r < 8; r++) {
            x.put(r, mixed(100, r));
        }
        for (int r = 0; r < 8; r++) {
            byte[] want = mixed(100, r);
            due("the first byte", x.at(r, 0), want[0] & 255);
            due("the 100th byte", x.at(r, 99), want[99] & 255);
            due("a 101st byte", x.at(r, 100), NONE);
            due("one more", x.add(r, 1, 1), REFUSED);
            due("it had", x.clear(r), 100);
        }

        sentence("Terms", "TOKENS 0 .. 7 may be there");
        x = new Counted().put(0, "k");
        for (int t = 0; t < 8; t++) {
            x.put(1, mixed(t + 1, t));
            due("make", x.make(t, 0, 1), 0);
        }
        for (int t = 0; t < 8; t++) {
            due("its name", x.told(t, 0), t + 1);
            byte[] want = sealOf(bytes("k"), mixed(t + 1, t));
            due("its sign", x.signOf(t), want);
        }

        sentence("Terms", "THE TAPE has up to 1200 bytes");
        x = new Counted().typeAll(mixed(1200, 3));
        due("the first byte", x.tape(0), mixed(1200, 3)[0] & 255);
        due("the 1200th byte", x.tape(1199), mixed(1200, 3)[1199] & 255);
        due("a 1201st byte", x.tape(1200), NONE);
        due("one more", x.type(1, 1), REFUSED);
        due("it had", x.cut(0), 1200);
    }

    private static void dueHash(byte[] message, byte[] want) {
        Counted x = new Counted().put(6, message);
        due("hash of " + message.length + " bytes", x.hash(2, 6), 32);
        due("the hash of " + message.length + " bytes", x.register(2), want);
    }

    private static void dueSeal(byte[] key, byte[] message) {
        Counted x = new Counted().put(0, key).put(7, message);
        due("seal", x.seal(3, 0, 7), 32);
        due("the seal of " + message.length + " bytes by a key of " + key.length,
                x.register(3), sealOf(key, message));
    }

    private static void words() {
        // The hashes written out here are those of the standard that the words describe.
        sentence("Terms", "WORDS have 32 bits, highest byte first, and run over");
        dueHash(new byte[0], hex("e3b0c44298fc1c149afbf4c8996fb92427ae41e4649b934ca495991b7852b855"));
        dueHash(bytes("abc"),
                hex("ba7816bf8f01cfea414140de5dae2223b00361a396177a9cb410ff61f20015ad"));
        dueHash(bytes("abcdbcdecdefdefgefghfghighijhijkijkljklmklmnlmnomnopnopq"),
                hex("248d6a61d20638b8e5c026930c3e6039a33ce45964ff2167f6ecedd419db06c1"));
        for (int b : new int[] {0, 1, 127, 128, 254, 255}) {
            dueHash(filled(100, b), hashOf(filled(100, b)));
            dueHash(filled(64, b), hashOf(filled(64, b)));
        }
    }

    private static void filling() {
        sentence("Terms, 1", "a byte 128, as few 0s as make the length 56 modulo 64");
        for (int n : new int[] {0, 1, 2, 3, 53, 54, 55, 56, 57, 62, 63, 64, 65, 99, 100}) {
            dueHash(mixed(n, n), hashOf(mixed(n, n)));
        }

        sentence("Terms, 1", "how many bits they have, as 8 bytes (highest first), are put behind them");
        for (int n : new int[] {31, 32, 33, 63, 64, 95, 96, 97}) {
            dueHash(filled(n, 0), hashOf(filled(n, 0)));
        }

        sentence("Terms, 1", "Of each 64 bytes");
        // A seal's inner hash has 64 bytes more: 119 of them are two blocks, 120 and 164 are three.
        for (int n : new int[] {0, 54, 55, 56, 57, 63, 64, 65, 99, 100}) {
            dueSeal(mixed(32, 1), mixed(n, n));
        }
    }

    private static byte[] sealed(byte[] key, byte[] message) {
        Counted x = new Counted().put(0, key).put(1, message);
        x.seal(2, 0, 1);
        return x.register(2);
    }

    private static void keysOfSeals() {
        byte[] m = bytes("message");
        sentence("Terms, 1", "with k of 64 bytes (its hash, if it has more");
        for (int n : new int[] {65, 66, 99, 100}) {
            byte[] key = mixed(n, n);
            due("a key of " + n, sealed(key, m), sealed(hashOf(key), m));
            dueSeal(key, m);
        }
        byte[] just = mixed(64, 5);
        dueSeal(just, m);
        dueOther("a key of 64 is not hashed", sealed(just, m), sealed(hashOf(just), m));

        sentence("Terms, 1", "0s behind it, if less)");
        for (int n : new int[] {0, 1, 31, 32, 62, 63}) {
            byte[] key = mixed(n, n);
            due("a key of " + n, sealed(key, m), sealed(Arrays.copyOf(key, 64), m));
            dueSeal(key, m);
        }

        sentence("Terms, 1", "THE SEAL(k, m): with k of 64 bytes");
        dueSeal(new byte[0], new byte[0]);
        dueSeal(new byte[0], mixed(100, 1));
        dueSeal(mixed(100, 1), new byte[0]);
        dueSeal(mixed(64, 1), new byte[0]);
        dueSeal(mixed(100, 1), mixed(100, 2));
        dueSeal(filled(64, 255), filled(100, 255));
    }

    // -- BAD and REFUSED

    private static final int RICH_PLACE = 90;

    /**
     * Registers 0 and 1 have 32 bytes, 2 "root", 3 "bank", 4 "a<5", 5 60 bytes, 6 100, 7 none.
     * Token 0 has two limits, 1 is bound to it, 2 has ten limits, 7 is as 0; 3 to 6 are not there.
     * A prove and a read have found faults.
     */
    private static Counted rich() {
        Counted x = new Counted().put(0, filled(32, 7)).put(1, filled(32, 200));
        x.put(2, "root").put(3, "bank").put(4, "a<5").put(5, mixed(60, 5));
        x.put(6, mixed(100, 6));
        x.make(0, 0, 2);
        x.limit(0, 4);
        x.others(0, 1, 3);
        x.make(1, 1, 3);
        x.bind(1, 0);
        x.make(2, 0, 5);
        for (int i = 0; i < 10; i++) {
            x.limit(2, 4);
        }
        x.copy(0, 7);
        for (int letter = 0; letter < 8; letter++) {
            x.ask(letter, letter + 1);
        }
        x.prove(0, 0, 0);
        x.write(0);
        x.type(5, 1);
        x.read(3);
        return x;
    }

    /** All that can be seen of a rich object behind a call; each part on an object of its own. */
    private static String stateBehind(ToIntFunction<Counted> call) {
        StringBuilder all = new StringBuilder();
        for (int part = 0; part < 18; part++) {
            Counted x = rich();
            call.applyAsInt(x);
            if (part < 8) {
                all.append(" register ").append(part).append(Arrays.toString(x.register(part)));
            } else if (part < 16) {
                int t = part - 8;
                all.append(" token ").append(t).append(x.told(t, 0)).append(Arrays.toString(x.bytesOf(t)));
            } else if (part == 16) {
                all.append(" tape ").append(Arrays.toString(x.tapeFrom(0, 120))).append(x.cut(0));
            } else {
                all.append(" faults ").append(x.fault(0)).append(x.fault(1)).append(x.fault(2));
                all.append(" place ").append(x.place()).append(" request");
                for (int letter = 0; letter < 8; letter++) {
                    all.append(' ').append(x.ask(letter, 0));
                }
            }
        }
        return all.toString();
    }

    private static String before = "";

    private static void dueLeft(String what, ToIntFunction<Counted> call, int answer) {
        due(what, call.applyAsInt(rich()), answer);
        due("all behind " + what, stateBehind(call), before);
    }

    private static void badThenRefused() {
        sentence("Terms", "In all calls BAD: a number is not as said, there is no such one; then REFUSED");
        for (int none : NOT_0_TO_7) {
            due("add to no register, more than 100", rich().add(none, 8, 0), BAD);
            due("make of no token, a name of 0", rich().make(none, 0, 7), BAD);
            due("make with no key, a name of 100", rich().make(0, none, 6), BAD);
            due("limit of no token, a text of 0", rich().limit(none, 7), BAD);
            due("limit, no text, full", rich().limit(2, none), BAD);
            due("others of no token, a text of 0", rich().others(none, 1, 7), BAD);
            due("others of no key, a text of 0", rich().others(0, none, 7), BAD);
            due("others of no key, full", rich().others(2, none, 3), BAD);
            due("others of no text, a key of 4", rich().others(0, 2, none), BAD);
            due("others of no text, full", rich().others(2, 1, none), BAD);
        }
        for (int n : NOT_1_TO_8) {
            due("add of " + n + " to a full register", rich().add(6, n, 0), BAD);
            Counted full = new Counted().typeAll(mixed(1200, 1));
            due("type of " + n + " to a full tape", full.type(0, n), BAD);
        }
        due("limit of a token not there, a text of 0", rich().limit(3, 7), BAD);
        due("others of a token not there, a text of 100", rich().others(3, 1, 6), BAD);
        due("others of a token not there, a key of 4", rich().others(3, 2, 3), BAD);
        due("a token not there is no reason for make", rich().make(3, 0, 7), REFUSED);
    }

    private static void badLeavesAll() {
        sentence("Terms", "In all calls BAD");
        before = stateBehind(x -> 0);
        for (int n : NOT_0_TO_7) {
            dueLeft("add(n, 1, 1)", x -> x.add(n, 1, 1), BAD);
            dueLeft("clear(n)", x -> x.clear(n), BAD);
            dueLeft("at(n, 0)", x -> x.at(n, 0), BAD);
            dueLeft("hash(n, 2)", x -> x.hash(n, 2), BAD);
            dueLeft("hash(2, n)", x -> x.hash(2, n), BAD);
            dueLeft("seal(n, 1, 2)", x -> x.seal(n, 1, 2), BAD);
            dueLeft("seal(3, n, 2)", x -> x.seal(3, n, 2), BAD);
            dueLeft("seal(3, 1, n)", x -> x.seal(3, 1, n), BAD);
            dueLeft("make(n, 0, 2)", x -> x.make(n, 0, 2), BAD);
            dueLeft("make(0, n, 2)", x -> x.make(0, n, 2), BAD);
            dueLeft("make(0, 0, n)", x -> x.make(0, 0, n), BAD);
            dueLeft("limit(n, 4)", x -> x.limit(n, 4), BAD);
            dueLeft("limit(0, n)", x -> x.limit(0, n), BAD);
            dueLeft("others(n, 1, 3)", x -> x.others(n, 1, 3), BAD);
            dueLeft("others(0, n, 3)", x -> x.others(0, n, 3), BAD);
            dueLeft("others(0, 1, n)", x -> x.others(0, 1, n), BAD);
            dueLeft("bind(n, 0)", x -> x.bind(n, 0), BAD);
            dueLeft("bind(0, n)", x -> x.bind(0, n), BAD);
            dueLeft("copy(n, 0)", x -> x.copy(n, 0), BAD);
            dueLeft("copy(0, n)", x -> x.copy(0, n), BAD);
            dueLeft("drop(n)", x -> x.drop(n), BAD);
            dueLeft("told(n, 0)", x -> x.told(n, 0), BAD);
            dueLeft("sign(n, 0)", x -> x.sign(n, 0), BAD);
            dueLeft("spoil(n, 0, 0, 1)", x -> x.spoil(n, 0, 0, 1), BAD);
            dueLeft("ask(n, 77)", x -> x.ask(n, 77), BAD);
            dueLeft("truth(n)", x -> x.truth(n), BAD);
            dueLeft("prove(n, 0, 0)", x -> x.prove(n, 0, 0), BAD);
            dueLeft("prove(0, n, 0)", x -> x.prove(0, n, 0), BAD);
            dueLeft("write(n)", x -> x.write(n), BAD);
            dueLeft("read(n)", x -> x.read(n), BAD);
            dueLeft("fault(n)", x -> x.fault(n), BAD);
            dueLeft("sign, no byte", x -> x.sign(0, n == 8 ? 32 : n), BAD);
            dueLeft("told, no such", x -> x.told(0, n == 8 ? 12 : n), BAD);
            dueLeft("spoil(0, n, 0, 1)", x -> x.spoil(0, n, 0, 1), BAD);
            dueLeft("spoil(0, 1, n, 1)", x -> x.spoil(0, 1, n, 1), BAD);
            dueLeft("cut, not so many", x -> x.cut(n == 8 ? RICH_PLACE + 2 : n), BAD);
            dueLeft("forge, no byte", x -> x.forge(n == 8 ? RICH_PLACE + 1 : n, 1), BAD);
        }
        for (int n : NOT_A_BYTE) {
            dueLeft("spoil(0, 0, 0, n)", x -> x.spoil(0, 0, 0, n), BAD);
            dueLeft("spoil(0, 1, 0, n)", x -> x.spoil(0, 1, 0, n), BAD);
            dueLeft("forge(0, n)", x -> x.forge(0, n), BAD);
            dueLeft("prove(0, 0, n)", x -> x.prove(0, 0, n), BAD);
            dueLeft("ask, no number", x -> x.ask(0, n == 256 ? 1000000 : n), BAD);
        }
        for (int n : NOT_1_TO_8) {
            dueLeft("add(2, n, 1)", x -> x.add(2, n, 1), BAD);
            dueLeft("type(1, n)", x -> x.type(1, n), BAD);
        }
        for (int t = 3; t < 7; t++) {
            int gone = t;
            dueLeft("limit of one not there", x -> x.limit(gone, 4), BAD);
            dueLeft("others of one not there", x -> x.others(gone, 1, 3), BAD);
            dueLeft("bind of one not there", x -> x.bind(gone, 0), BAD);
            dueLeft("bind to one not there", x -> x.bind(0, gone), BAD);
            dueLeft("copy of one not there", x -> x.copy(gone, 0), BAD);
            dueLeft("copy of one not there to itself", x -> x.copy(gone, gone), BAD);
            dueLeft("told of one not there", x -> x.told(gone, 0), BAD);
            dueLeft("sign of one not there", x -> x.sign(gone, 0), BAD);
            dueLeft("spoil of one not there", x -> x.spoil(gone, 0, 0, 1), BAD);
            dueLeft("prove of one not there", x -> x.prove(gone, 0, 0), BAD);
            dueLeft("prove with one not there", x -> x.prove(0, 0, 1 << gone), BAD);
            dueLeft("write of one not there", x -> x.write(gone), BAD);
        }
    }

    private static void refusedLeavesAll() {
        sentence("Terms", "then REFUSED");
        before = stateBehind(x -> 0);
        for (int n = 1; n <= 8; n++) {
            int more = n;
            dueLeft("add to a full register", x -> x.add(6, more, -1), REFUSED);
        }
        for (int name : new int[] {6, 7}) {
            dueLeft("make instead of one", x -> x.make(0, 0, name), REFUSED);
            dueLeft("make a new one", x -> x.make(3, 0, name), REFUSED);
            dueLeft("limit with no good length", x -> x.limit(0, name), REFUSED);
            dueLeft("others with no good length", x -> x.others(0, 1, name), REFUSED);
            dueLeft("others with no good key", x -> x.others(0, name, 3), REFUSED);
        }
        dueLeft("limit of a full one", x -> x.limit(2, 4), REFUSED);
        dueLeft("others of a full one", x -> x.others(2, 1, 3), REFUSED);
        dueLeft("others with a short key", x -> x.others(0, 2, 3), REFUSED);
        dueLeft("others with a key of 60", x -> x.others(0, 5, 3), REFUSED);
        for (int n = 2; n <= 8; n++) {
            Counted x = new Counted().typeAll(mixed(1199, 1));
            due("type of more than there is room for", x.type(-1, n), REFUSED);
            due("behind it", x.tape(1199), NONE);
            due("the last byte", x.tape(1198), mixed(1199, 1)[1198] & 255);
            due("it has", x.cut(0), 1199);
        }
    }
}
