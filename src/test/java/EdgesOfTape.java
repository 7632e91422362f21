import java.util.Arrays;

/** The sentences on the tape that name an edge: "Terms", ==== 5, and promises 20 to 26. */
public final class EdgesOfTape extends Sentences {
    private static final byte[] KEY = mixed(32, 70);
    private static final byte[] OTHER_KEY = mixed(32, 71);
    private static final int LONGEST = 1069;
    // Where the parts of sample() begin.
    private static final int NAME_LENGTH_AT = 2;
    private static final int NAME_END_AT = 7;
    private static final int OWN_AT = 8;
    private static final int OWN_END_AT = 12;
    private static final int OTHERS_AT = 13;
    private static final int LOCK_AT = 18;
    private static final int OTHERS_END_AT = 52;
    private static final int END_AT = 53;
    private static final int SIGN_AT = 54;
    private static final int SAMPLE_LENGTH = 88;

    public static void main(String[] args) {
        tokensAsBytes();
        endsOfTape();
        unwantedBytes();
        lengths();
        eleventhLimits();
        bytesBehind();
        firstFaults();
        write();
        type();
        tape();
        cut();
        forge();
        read();
        place();
        end();
    }

    /** Registers 0 and 1 have keys, 2 "root", 3 "bank", 4 "a<5"; token 0 is made. */
    private static Counted ready() {
        Counted x = new Counted().put(0, KEY).put(1, OTHER_KEY).put(2, "root").put(3, "bank").put(4, "a<5");
        x.make(0, 0, 2);
        return x;
    }

    private static byte[] rootSign() {
        return sealOf(KEY, bytes("root"));
    }

    // -- tapes, put together here and not by the class

    private static byte[] name(int n) {
        return join(bytes(2, 2, n), mixed(n, 1), bytes(0));
    }

    private static byte[] own(int n) {
        return join(bytes(2, n), mixed(n, 2), bytes(0));
    }

    private static byte[] ofOthers(int n) {
        return join(bytes(2, n), mixed(n, 3), bytes(4, 32), mixed(32, 4), bytes(0));
    }

    private static byte[] ending() {
        return join(bytes(0, 6, 32), mixed(32, 5));
    }

    /** A token with an own limit and one of others. */
    private static byte[] sample() {
        return join(name(4), own(2), ofOthers(3), ending());
    }

    private static byte[] longest() {
        byte[] all = name(60);
        for (int i = 0; i < 10; i++) {
            all = join(all, ofOthers(60));
        }
        return join(all, ending());
    }

    private static void dueGood(String what, byte[] tape, int limits) {
        Counted x = new Counted().typeAll(tape);
        due(what + ", read", x.read(3), limits);
        due(what + ", place", x.place(), NONE);
        due(what + ", limits", x.told(3, 1), limits);
        due(what + ", written", x.write(3), tape.length);
        for (int from = 0; from < tape.length; from += 200) {
            int to = Math.min(tape.length, from + 200);
            x = new Counted().typeAll(tape);
            x.read(3);
            x.cut(0);
            x.write(3);
            due(what + ", bytes from " + from, x.tapeFrom(from, to), Arrays.copyOfRange(tape, from, to));
        }
    }

    private static void dueWrong(String what, byte[] tape, int fault, int place) {
        Counted x = new Counted().typeAll(tape);
        due(what + ", read", x.read(3), -10 - fault);
        due(what + ", place", x.place(), place);
        due(what + ", no token", x.told(3, 0), BAD);
        due(what + ", the tape stays", x.cut(0), tape.length);
    }

    private static byte[] with(byte[] tape, int i, int b) {
        byte[] other = tape.clone();
        other[i] = (byte) b;
        return other;
    }

    private static void tokensAsBytes() {
        sentence("Terms, 5", "A tape IS A TOKEN if it is just that of one");
        dueGood("the shortest", join(name(1), ending()), 0);
        dueGood("a name of 60", join(name(60), ending()), 0);
        dueGood("own limits of 1 and 60", join(name(1), own(1), own(60), ending()), 2);
        dueGood("limits of others with 1 and 60", join(name(1), ofOthers(1), ofOthers(60), ending()), 2);
        dueGood("an own one behind one of others", join(name(2), ofOthers(2), own(2), ending()), 2);
        dueGood("the sample", sample(), 2);
        dueGood("the longest", longest(), 10);
        byte[] tenOwn = name(60);
        for (int i = 0; i < 10; i++) {
            tenOwn = join(tenOwn, own(1 + 6 * i));
        }
        dueGood("ten own limits", join(tenOwn, ending()), 10);
        for (int b : new int[] {0, 2, 4, 6, 32, 255}) {
            byte[] all = join(bytes(2, 2, 60), filled(60, b), bytes(0, 2, 60), filled(60, b), bytes(4, 32),
                    filled(32, b), bytes(0, 0, 6, 32), filled(32, b));
            dueGood("parts of bytes " + b, all, 1);
        }
    }

    private static void endsOfTape() {
        sentence("Terms, 5", "1 its end where a byte is wanted (the tape's length)");
        byte[] good = sample();
        for (int n = 0; n < good.length; n++) {
            dueWrong("the first " + n + " bytes", Arrays.copyOf(good, n), 1, n);
        }
        byte[] most = longest();
        for (int n : new int[] {63, 64, 65, 66, 126, 127, 128, 160, 161, 1033, 1034, 1035, 1036, 1037, 1068}) {
            dueWrong("the first " + n + " of the longest", Arrays.copyOf(most, n), 1, n);
        }
        dueWrong("a name of 60 wanted, one is there", bytes(2, 2, 60, 1), 1, 4);
        dueWrong("behind ten limits", Arrays.copyOf(most, 1034), 1, 1034);
    }

    private static void unwantedBytes() {
        sentence("Terms, 5", "2 a byte that is not the one wanted");
        for (int b = 0; b < 256; b++) {
            for (int place : new int[] {0, 1}) {
                if (b != 2) {
                    dueWrong("a 2 is wanted at " + place, with(sample(), place, b), 2, place);
                }
            }
            for (int place : new int[] {NAME_END_AT, OTHERS_END_AT}) {
                if (b != 0) {
                    dueWrong("a 0 is wanted at " + place, with(sample(), place, b), 2, place);
                }
            }
            if (b != 6) {
                dueWrong("a 6 is wanted", with(sample(), SIGN_AT, b), 2, SIGN_AT);
            }
        }

        sentence("Terms, 5", "(where 2 or 0, or 4 or 0 are wanted, too)");
        for (int b = 0; b < 256; b++) {
            if (b != 0 && b != 2) {
                dueWrong("2 or 0 behind the name", with(sample(), OWN_AT, b), 2, OWN_AT);
                dueWrong("2 or 0 behind an own limit", with(sample(), OTHERS_AT, b), 2, OTHERS_AT);
                dueWrong("2 or 0 behind one of others", with(sample(), END_AT, b), 2, END_AT);
                dueWrong("2 or 0, with nothing behind", join(name(1), bytes(b)), 2, 5);
            }
            if (b != 0 && b != 4) {
                dueWrong("4 or 0 behind an own text", with(sample(), OWN_END_AT, b), 2, OWN_END_AT);
                dueWrong("4 or 0 behind a text of others", with(sample(), LOCK_AT, b), 2, LOCK_AT);
                dueWrong("4 or 0, with nothing behind", join(name(1), bytes(2, 1, 7, b)), 2, 8);
            }
        }
        dueWrong("a second lock", join(name(1), bytes(2, 1, 7, 4, 32), mixed(32, 1), bytes(4, 32)), 2, 42);
    }

    private static void lengths() {
        sentence("Terms, 5", "3 a length that is not 1 .. 60 (of a name or text)");
        for (int n = 0; n < 256; n++) {
            byte[] some = filled(n, 9);
            byte[] named = join(bytes(2, 2, n), some, bytes(0), ending());
            byte[] owned = join(name(4), bytes(2, n), some, bytes(0), ending());
            byte[] lent = join(name(4), own(2), bytes(2, n), some, bytes(4, 32), mixed(32, 1), bytes(0), ending());
            if (n >= 1 && n <= 60) {
                due("a name of " + n, new Counted().typeAll(named).read(0), 0);
                due("an own text of " + n, new Counted().typeAll(owned).read(0), 1);
                due("a text of others of " + n, new Counted().typeAll(lent).read(0), 2);
            } else {
                dueWrong("a name of " + n, named, 3, NAME_LENGTH_AT);
                dueWrong("an own text of " + n, owned, 3, OWN_AT + 1);
                dueWrong("a text of others of " + n, lent, 3, OTHERS_AT + 1);
                dueWrong("a name of " + n + ", with nothing behind", bytes(2, 2, n), 3, NAME_LENGTH_AT);
            }
        }

        sentence("Terms, 5", "or not 32");
        for (int n = 0; n < 256; n++) {
            byte[] some = filled(n, 9);
            byte[] locked = join(name(4), own(2), bytes(2, 3, 1, 2, 3, 4, n), some, bytes(0), ending());
            byte[] signed = join(name(4), own(2), ofOthers(3), bytes(0, 6, n), some);
            if (n == 32) {
                due("a lock of 32", new Counted().typeAll(locked).read(0), 2);
                due("a sign of 32", new Counted().typeAll(signed).read(0), 2);
            } else {
                dueWrong("a lock of " + n, locked, 3, LOCK_AT + 1);
                dueWrong("a sign of " + n, signed, 3, SIGN_AT + 1);
                dueWrong("a sign of " + n + ", with nothing behind", Arrays.copyOf(signed, 56), 3, SIGN_AT + 1);
            }
        }
    }

    /** A tape with n limits of a byte each, every second one of others, and no end. */
    private static byte[] limits(int n) {
        byte[] all = name(1);
        for (int i = 0; i < n; i++) {
            all = join(all, i % 2 == 0 ? own(1) : ofOthers(1));
        }
        return all;
    }

    private static void eleventhLimits() {
        sentence("Terms, 5", "4 an eleventh limit (at its 2)");
        int at = limits(10).length;
        dueGood("ten", join(limits(10), ending()), 10);
        dueWrong("an eleventh", join(limits(11), ending()), 4, at);
        dueWrong("a twelfth", join(limits(12), ending()), 4, at);
        dueWrong("its 2 alone", join(limits(10), bytes(2)), 4, at);
        dueWrong("a 2 instead of the end", join(limits(10), with(ending(), 0, 2)), 4, at);
        dueWrong("an eleventh with a wrong length", join(limits(10), bytes(2, 0)), 4, at);
        dueWrong("its end where an eleventh could be", limits(10), 1, at);
        for (int b = 0; b < 256; b++) {
            if (b != 0 && b != 2) {
                dueWrong("another byte there", join(limits(10), with(ending(), 0, b)), 2, at);
            }
        }
    }

    private static void bytesBehind() {
        sentence("Terms, 5", "5 bytes behind the sign");
        for (int more : new int[] {1, 2, 8, 100, 1200 - SAMPLE_LENGTH}) {
            dueWrong(more + " bytes behind", join(sample(), filled(more, 0)), 5, SAMPLE_LENGTH);
        }
        for (int b : new int[] {1, 2, 4, 6, 32, 255}) {
            dueWrong("a byte " + b + " behind", join(sample(), bytes(b)), 5, SAMPLE_LENGTH);
        }
        dueWrong("two tokens", join(sample(), sample()), 5, SAMPLE_LENGTH);
        dueWrong("one behind the longest", join(longest(), bytes(0)), 5, LONGEST);
        dueWrong("a full tape", join(longest(), filled(1200 - LONGEST, 2)), 5, LONGEST);
    }

    private static void firstFaults() {
        sentence("Terms, 5", "The place is that byte's");
        dueWrong("two unwanted bytes", with(with(sample(), NAME_END_AT, 9), OWN_AT, 9), 2, NAME_END_AT);
        dueWrong("a wrong length, then no end", with(sample(), NAME_LENGTH_AT, 0), 3, NAME_LENGTH_AT);
        dueWrong("an unwanted byte, and bytes behind", join(with(sample(), SIGN_AT, 9), bytes(1)), 2, SIGN_AT);
        dueWrong("a wrong length, and an eleventh limit", with(join(limits(11), ending()), 6, 61), 3, 6);
        dueWrong("the first byte of a full tape", with(join(longest(), filled(131, 2)), 0, 0), 2, 0);
        dueWrong("no tape", new byte[0], 1, 0);
    }

    // -- the promises

    private static void write() {
        sentence("20 write", "A token comes to THE TAPE, instead of what was: how many bytes");
        byte[] small = join(bytes("\2\2\4root\0\0\6\40"), rootSign());
        for (int n : new int[] {0, 1, 42, 43, 44, 1199, 1200}) {
            Counted x = ready().typeAll(mixed(n, 1));
            due("write over " + n, x.write(0), small.length);
            due("the tape", x.tapeFrom(0, small.length), small);
            due("behind it", x.tape(small.length), NONE);
            due("the last one that was", x.tape(1199), NONE);
            due("it has", x.cut(0), small.length);
        }
        Counted x = ready().put(5, "n");
        x.make(7, 0, 5);
        due("the shortest", x.write(7), 40);
        due("it is a token", x.read(6), 0);
        x.put(5, mixed(60, 1));
        x.make(7, 0, 5);
        for (int i = 0; i < 10; i++) {
            x.others(7, 1, 5);
        }
        due("the longest", x.write(7), LONGEST);
        due("it is a token", x.read(6), 10);
        due("there is room behind it", x.type(0, 8), LONGEST + 8);
        due("the token stays", x.told(7, 1), 10);

        sentence("20 write", "BAD");
        for (int t : NOT_0_TO_7) {
            x = ready().typeAll(bytes("as before"));
            due("write " + t, x.write(t), BAD);
            due("the tape", x.tapeFrom(0, 9), bytes("as before"));
        }
        for (int t = 1; t < 8; t++) {
            x = ready().typeAll(bytes("as before"));
            due("write " + t + ", not there", x.write(t), BAD);
            due("the tape", x.tapeFrom(0, 9), bytes("as before"));
        }
    }

    private static void type() {
        sentence("21 type", "The n (1 .. 8) lowest bytes of w");
        for (int n = 1; n <= 8; n++) {
            for (long w : new long[] {0, -1, 0x8182838485868788L, Long.MIN_VALUE, Long.MAX_VALUE}) {
                Counted x = new Counted();
                due("type of " + n, x.type(w, n), n);
                byte[] want = new byte[n];
                for (int i = 0; i < n; i++) {
                    want[i] = (byte) (w >> 8 * i);
                }
                due("the tape", x.tapeFrom(0, n), want);
                due("behind it", x.tape(n), NONE);
            }
        }
        for (int n : NOT_1_TO_8) {
            Counted x = new Counted().typeAll(bytes("as before"));
            due("type of " + n, x.type(1, n), BAD);
            due("the tape has", x.cut(0), 9);
        }

        sentence("21 type", "the lowest first, come behind THE TAPE: how many it has");
        Counted x = new Counted();
        due("type", x.type(0x0807060504030201L, 8), 8);
        due("type", x.type(0x1ffL, 1), 9);
        due("type", x.type(0xfedcbaL, 2), 11);
        due("the tape", x.tapeFrom(0, 11), bytes(1, 2, 3, 4, 5, 6, 7, 8, 0xff, 0xba, 0xdc));
        x = ready();
        x.write(0);
        due("type behind what was written", x.type(7, 1), 44);

        sentence("21 type", "REFUSED: more than 1200");
        for (int n = 1; n <= 8; n++) {
            x = new Counted().typeAll(mixed(1200 - n, n));
            due("type that makes 1200", x.type(-1, n), 1200);
            due("its last byte", x.tape(1199), 255);
            due("one more", x.type(0, 1), REFUSED);
            x = new Counted().typeAll(mixed(1201 - n, n));
            due("type that would make 1201", x.type(-1, n), REFUSED);
            due("behind the tape", x.tape(1201 - n), NONE);
            due("its last byte", x.tape(1200 - n), mixed(1201 - n, n)[1200 - n] & 255);
            due("it has", x.cut(0), 1201 - n);
        }
        x = new Counted().typeAll(mixed(1200, 1));
        x.cut(1192);
        due("there is room again", x.type(0, 8), 1200);
    }

    private static void tape() {
        sentence("22 tape", "Byte i of THE TAPE; NONE");
        for (int n : new int[] {0, 1, 2, 1199, 1200}) {
            Counted x = new Counted().typeAll(mixed(n, 2));
            for (int i : new int[] {0, 1, n / 2, n - 2, n - 1}) {
                due("byte " + i + " of " + n, x.tape(i), i >= 0 && i < n ? mixed(n, 2)[i] & 255 : NONE);
            }
            for (int i : new int[] {-1, n, n + 1, 1200, 1201, LEAST, MOST}) {
                due("byte " + i + " of " + n, x.tape(i), NONE);
            }
        }
        Counted x = new Counted().typeAll(bytes(0, 128, 255));
        due("a byte 0 is not NONE", x.tape(0), 0);
        due("128 is not below 0", x.tape(1), 128);
        due("255 is not NONE", x.tape(2), 255);
    }

    private static void cut() {
        sentence("23 cut", "THE TAPE has its first n bytes alone: how many went");
        for (int n : new int[] {0, 1, 2, 1199, 1200}) {
            for (int left : new int[] {0, 1, n - 1, n}) {
                if (left >= 0 && left <= n) {
                    Counted x = new Counted().typeAll(mixed(n, 2));
                    due("cut of " + n + " to " + left, x.cut(left), n - left);
                    due("its last byte", x.tape(left - 1), left == 0 ? NONE : mixed(n, 2)[left - 1] & 255);
                    due("behind it", x.tape(left), NONE);
                    due("once more", x.cut(left), 0);
                    if (left < 1200) {
                        due("type", x.type(77, 1), left + 1);
                        due("what was does not come again", x.tape(left), 77);
                        due("behind it", x.tape(left + 1), NONE);
                    }
                }
            }
        }

        sentence("23 cut", "BAD: it has not so many, n below 0");
        for (int n : new int[] {0, 1, 1199, 1200}) {
            for (int left : new int[] {-1, n + 1, 1201, LEAST, MOST}) {
                Counted x = new Counted().typeAll(mixed(n, 2));
                due("cut of " + n + " to " + left, x.cut(left), BAD);
                due("it has", x.cut(0), n);
            }
        }
        Counted x = new Counted().typeAll(mixed(10, 1));
        x.cut(5);
        due("cut to what it had once", x.cut(6), BAD);
    }

    private static void forge() {
        sentence("24 forge", "Byte i of THE TAPE becomes itself ^ x (0 .. 255): what it is then");
        for (int by : new int[] {0, 1, 127, 128, 254, 255}) {
            Counted x = new Counted().typeAll(bytes(0, 15, 255));
            due("0 ^ " + by, x.forge(0, by), by);
            due("15 ^ " + by, x.forge(1, by), 15 ^ by);
            due("255 ^ " + by, x.forge(2, by), 255 ^ by);
            due("the tape", x.tapeFrom(0, 3), bytes(by, 15 ^ by, 255 ^ by));
            due("once more", x.forge(2, by), 255);
        }
        for (int by : NOT_A_BYTE) {
            Counted x = new Counted().typeAll(bytes(0, 15, 255));
            due("by " + by, x.forge(1, by), BAD);
            due("the tape", x.tapeFrom(0, 3), bytes(0, 15, 255));
        }
        Counted full = new Counted().typeAll(mixed(1200, 2));
        due("the last of a full tape", full.forge(1199, 255), ~mixed(1200, 2)[1199] & 255);
        due("the one before it", full.tape(1198), mixed(1200, 2)[1198] & 255);

        sentence("24 forge", "BAD");
        for (int n : new int[] {0, 1, 1199, 1200}) {
            Counted x = new Counted().typeAll(mixed(n, 2));
            for (int i : new int[] {-1, n, n + 1, 1200, LEAST, MOST}) {
                due("forge of byte " + i + " of " + n, x.forge(i, 1), BAD);
                due("by 0, too", x.forge(i, 0), BAD);
            }
        }
        Counted x = new Counted().typeAll(mixed(10, 1));
        x.cut(5);
        due("a byte that was there once", x.forge(5, 1), BAD);
    }

    private static void read() {
        sentence("25 read", "THE TAPE becomes a token, instead of what was: how many limits");
        for (int t = 0; t < 8; t++) {
            Counted x = ready().typeAll(join(name(1), ending()));
            x.make(t, 1, 3);
            for (int i = 0; i < 10; i++) {
                x.others(t, 1, 2);
            }
            due("read", x.read(t), 0);
            for (int what = 1; what <= 11; what++) {
                due("nothing of what was is left", x.told(t, what), 0);
            }
            due("its name", x.told(t, 0), 1);
            due("its sign", x.signOf(t), mixed(32, 5));
            due("a limit", x.limit(t, 4), 1);
            due("it is an own one", x.told(t, 2), 3);
            due("its sign goes on", x.signOf(t), sealOf(mixed(32, 5), bytes("a<5")));
        }
        byte[][] tapes = {
            sample(), join(name(60), own(1), ending()), join(name(1), ofOthers(60), own(60), own(1), ending()),
            sample(), join(name(1), ofOthers(1), own(1), ending()), join(name(1), ending()),
            join(name(2), ofOthers(1), ofOthers(1), ending()), join(name(2), own(2), own(3), ending()),
        };
        for (int later = 1; later < tapes.length; later++) {
            Counted z = new Counted();
            z.typeAll(tapes[later - 1]).read(5);
            z.cut(0);
            z.typeAll(tapes[later]).read(5);
            due("a second one", z.bytesOf(5), tapes[later]);
            z = new Counted();
            due("a fault", z.typeAll(Arrays.copyOf(tapes[later - 1], tapes[later - 1].length - 1)).read(5), -11);
            z.cut(0);
            z.typeAll(tapes[later]).read(5);
            due("one behind a fault", z.bytesOf(5), tapes[later]);
        }
        Counted y = new Counted().typeAll(longest());
        due("one with ten limits", y.read(7), 10);
        due("its last limit", y.told(7, 11), 160);
        due("an eleventh", y.put(0, "a").limit(7, 0), REFUSED);

        sentence("25 read", "-10 less its FAULT: nothing is changed");
        byte[][] wrong = {
            Arrays.copyOf(sample(), SAMPLE_LENGTH - 1), with(sample(), SIGN_AT, 7), with(sample(), SIGN_AT + 1, 31),
            join(limits(11), ending()), join(sample(), bytes(0)), new byte[0],
        };
        int[] faults = {1, 2, 3, 4, 5, 1};
        for (int i = 0; i < wrong.length; i++) {
            Counted x = ready();
            x.limit(0, 4);
            byte[] before = x.bytesOf(0);
            x.cut(0);
            x.typeAll(wrong[i]);
            due("fault " + faults[i], x.read(0), -10 - faults[i]);
            due("one that was not there", x.read(7), -10 - faults[i]);
            due("it is not there", x.told(7, 0), BAD);
            due("the token", x.bytesOf(0), before);
            due("it can be proved", x.prove(0, 0, 0), 0);
        }

        sentence("25 read", "The tape stays");
        Counted x = new Counted().typeAll(sample());
        due("read", x.read(0), 2);
        due("the tape", x.tapeFrom(0, SAMPLE_LENGTH), sample());
        due("read again", x.read(1), 2);
        x.forge(0, 1);
        due("read with a fault", x.read(0), -12);
        due("the tape", x.tapeFrom(0, SAMPLE_LENGTH), with(sample(), 0, 3));
        due("its length", x.cut(0), SAMPLE_LENGTH);
        due("the tokens stay, too", x.told(0, 1) + x.told(1, 1), 4);

        sentence("25 read", "BAD");
        for (int t : NOT_0_TO_7) {
            due("read to " + t, new Counted().typeAll(sample()).read(t), BAD);
            due("with a fault of the tape", new Counted().read(t), BAD);
        }
    }

    private static void place() {
        sentence("26 place", "The place of the FAULT of the latest read() that was not BAD; NONE");
        due("before any", new Counted().place(), NONE);
        Counted x = new Counted();
        due("a BAD one", x.read(8), BAD);
        due("still", x.place(), NONE);
        due("an empty tape", x.read(0), -11);
        due("place 0 is not NONE", x.place(), 0);
        x.typeAll(sample());
        due("what comes to the tape changes nothing", x.place(), 0);
        due("a BAD one", x.read(-1), BAD);
        due("as before", x.place(), 0);
        due("a good one", x.read(0), 2);
        due("no fault", x.place(), NONE);
        x.type(0, 1);
        due("one with a fault", x.read(0), -15);
        due("its place", x.place(), SAMPLE_LENGTH);
        due("a BAD one", x.read(MOST), BAD);
        due("as before", x.place(), SAMPLE_LENGTH);
        x.write(0);
        due("as before", x.place(), SAMPLE_LENGTH);
        x.cut(0);
        x.drop(0);
        due("as before", x.place(), SAMPLE_LENGTH);
        due("a later one", x.read(0), -11);
        due("its place", x.place(), 0);
        x = new Counted().typeAll(join(longest(), bytes(0)));
        due("the last place there can be", x.read(0), -15);
        due("its place", x.place(), LONGEST);
    }
}
