import java.io.ByteArrayOutputStream;
import java.nio.charset.StandardCharsets;
import java.security.MessageDigest;
import java.util.ArrayList;
import java.util.Arrays;
import java.util.List;
import java.util.Map;
import java.util.Random;
import java.util.TreeMap;
import java.util.regex.Pattern;
import javax.crypto.Mac;
import javax.crypto.spec.SecretKeySpec;

/**
 * Runs of calls drawn from fixed seeds, each answer compared with a second model of the document,
 * which is written with the Java library (its hashes, lists and patterns) and shares no code.
 */
public final class ModelRuns {
    private static final int RUNS = 1500;
    private static final int CALLS = 512;

    private static int wrong = 0;
    private static final Map<String, Integer> SEEN = new TreeMap<>();

    public static void main(String[] args) {
        for (int run = 0; run < RUNS && wrong == 0; run++) {
            new Run(run).play();
        }
        checkSeen();
        System.out.println(wrong == 0 ? "all answers are as the model's" : wrong + " are not");
        if (wrong != 0) {
            System.exit(1);
        }
    }

    /** The runs must reach what is hard to reach, or they tell little. */
    private static void checkSeen() {
        String[] wanted = {
            "prove -2", "prove 0", "prove -11", "prove -12", "prove -13", "prove -14", "prove -15",
            "read 0", "read 1", "read 10", "read -11", "read -12", "read -13", "read -14", "read -15",
            "truth -2", "truth -1", "truth 0", "truth 1", "others -3", "others 10", "limit -3",
            "limit 10", "make -3", "add -3", "type -3", "begun 0 with 0", "begun 1 with 0",
            "begun 2 with 0", "begun 3 with 0", "fault in a helper",
        };
        for (String w : wanted) {
            if (!SEEN.containsKey(w)) {
                wrong++;
                System.out.println("no run reached: " + w);
            }
        }
    }

    private static final class Run {
        private final int number;
        private final Random random;
        private final LimitTokens x = new LimitTokens();
        private final Model m = new Model();
        private int calls = 0;

        Run(int number) {
            this.number = number;
            this.random = new Random(77_000_000L + number);
        }

        void play() {
            int style = number % 5;
            while (calls < CALLS && wrong == 0) {
                int pick = random.nextInt(100);
                if (style == 0) {
                    wildCall();
                } else if (style == 1) {
                    tapeStep(pick);
                } else if (style == 2) {
                    textStep();
                } else {
                    tokenStep(pick);
                }
            }
        }

        // -- steps, each of a few calls

        private void tokenStep(int pick) {
            int t = random.nextInt(8);
            if (pick < 8) {
                setRegister(random.nextInt(2) == 0 ? 2 : 3, bytesOf(name()));
                make(t, random.nextInt(2), 2);
            } else if (pick < 20) {
                setRegister(4, bytesOf(random.nextInt(6) == 0 ? mess() : text(1 + random.nextInt(2))));
                limit(t, 4);
            } else if (pick < 24) {
                setRegister(3, bytesOf(name()));
                others(t, random.nextInt(2), 3);
            } else if (pick < 36) {
                chain();
            } else if (pick < 46) {
                prove(t, random.nextInt(2), thereSet());
            } else if (pick < 50) {
                bind(t, random.nextInt(8));
            } else if (pick < 53) {
                copy(t, random.nextInt(8));
            } else if (pick < 55) {
                drop(t);
            } else if (pick < 60) {
                spoil(t, random.nextInt(4), random.nextInt(5), 1 << random.nextInt(8));
            } else if (pick < 64) {
                ask(random.nextInt(8), random.nextInt(4));
            } else if (pick < 70) {
                setRegister(random.nextInt(2), key(random.nextInt(3)));
            } else if (pick < 75) {
                told(t, random.nextInt(13));
            } else if (pick < 80) {
                sign(t, random.nextInt(32));
            } else if (pick < 84) {
                write(t);
                read(random.nextInt(8));
            } else {
                wildCall();
            }
        }

        /** A token that wants helpers, and helpers that mostly confirm it. */
        private void chain() {
            setRegister(0, key(0));
            setRegister(1, key(1));
            int root = random.nextInt(3);
            int[] helpers = {root + 1, root + 2, root + 3, root + 4};
            setRegister(2, bytesOf("r"));
            make(root, 0, 2);
            int n = 1 + random.nextInt(3);
            for (int i = 0; i < n; i++) {
                setRegister(3, bytesOf("h" + i));
                others(root, 1, 3);
            }
            int set = 0;
            for (int i = 0; i < n; i++) {
                setRegister(3, bytesOf("h" + i));
                make(helpers[i], 1, 3);
                if (i + 1 == n && random.nextBoolean()) {
                    setRegister(4, bytesOf("deep"));
                    others(helpers[i], 0, 4);
                    make(helpers[i] + 1, 0, 4);
                    bind(helpers[i] + 1, root);
                    set |= 1 << helpers[i] + 1;
                }
                if (random.nextInt(4) == 0) {
                    setRegister(4, bytesOf(text(1)));
                    limit(helpers[i], 4);
                }
                bind(helpers[i], random.nextInt(8) == 0 ? helpers[i] : root);
                set |= 1 << helpers[i];
            }
            prove(root, 0, set);
            if (random.nextInt(3) == 0) {
                spoil(root, 0, random.nextInt(32), 1);
                prove(root, 0, set);
            }
            prove(root, 0, set & ~(1 << helpers[0]));
        }

        private void tapeStep(int pick) {
            int t = random.nextInt(3);
            if (pick < 5) {
                setRegister(0, key(0));
                setRegister(2, bytesOf(name()));
                make(t, 0, 2);
            } else if (pick < 30) {
                setRegister(4, bytesOf(random.nextInt(3) == 0 ? letters(60) : text(1)));
                if (random.nextBoolean()) {
                    others(t, 0, 4);
                } else {
                    limit(t, 4);
                }
            } else if (pick < 45) {
                write(t);
                read(random.nextInt(8));
            } else if (pick < 60) {
                write(t);
                forge(random.nextInt(m.tape.size() + 2), random.nextInt(8));
                read(random.nextInt(8));
            } else if (pick < 70) {
                write(t);
                cut(random.nextInt(m.tape.size() + 2));
                read(random.nextInt(8));
            } else if (pick < 75) {
                type(random.nextLong(), random.nextInt(10));
                read(random.nextInt(8));
            } else if (pick < 80) {
                typeEleven();
            } else if (pick < 81 && number % 7 == 0) {
                fillUp();
            } else if (pick < 88) {
                told(random.nextInt(8), random.nextInt(13));
            } else {
                wildCall();
            }
        }

        private void typeEleven() {
            cut(0);
            type(0x61010202L, 5);
            int n = 9 + random.nextInt(3);
            for (int i = 0; i < n; i++) {
                type(0x00620102L, 4);
            }
            type(0x200600L, 3);
            for (int i = 0; i < 4; i++) {
                type(random.nextLong(), 8);
            }
            read(random.nextInt(8));
        }

        private void fillUp() {
            for (int i = 0; i < 152; i++) {
                type(random.nextLong(), 8);
            }
            type(random.nextLong(), 1);
            for (int i = 0; i < 14; i++) {
                add(6, 8, random.nextLong());
            }
            add(6, 1 + random.nextInt(6), 0L);
            seal(7, 6, 6);
            hash(6, 6);
        }

        private void textStep() {
            int pick = random.nextInt(10);
            if (pick < 2) {
                ask(random.nextInt(9), random.nextInt(5) == 0 ? random.nextInt(1100000) : random.nextInt(5));
            } else if (pick < 7) {
                String s = text(1 + random.nextInt(6));
                setRegister(5, bytesOf(s));
                truth(5);
            } else {
                setRegister(5, bytesOf(mess()));
                truth(5);
            }
        }

        private void wildCall() {
            int t = wild(8);
            switch (random.nextInt(25)) {
                case 0: add(t, wild(9), random.nextLong()); break;
                case 1: clear(t); break;
                case 2: at(t, wild(33)); break;
                case 3: hash(t, wild(8)); break;
                case 4: seal(t, wild(8), wild(8)); break;
                case 5: make(t, wild(8), wild(8)); break;
                case 6: limit(t, wild(8)); break;
                case 7: others(t, wild(8), wild(8)); break;
                case 8: bind(t, wild(8)); break;
                case 9: copy(t, wild(8)); break;
                case 10: drop(t); break;
                case 11: told(t, wild(12)); break;
                case 12: sign(t, wild(32)); break;
                case 13: spoil(t, wild(11), wild(32), wild(256)); break;
                case 14: ask(t, wild(1000000)); break;
                case 15: truth(t); break;
                case 16: prove(t, wild(8), wild(256)); break;
                case 17: fault(wild(3)); break;
                case 18: write(t); break;
                case 19: type(random.nextLong(), wild(9)); break;
                case 20: tape(wild(300)); break;
                case 21: cut(wild(100)); break;
                case 22: forge(wild(300), wild(256)); break;
                case 23: read(t); break;
                default: place(); break;
            }
        }

        // -- what is drawn

        private int wild(int below) {
            int pick = random.nextInt(60);
            switch (pick) {
                case 0: return -1;
                case 1: return below;
                case 2: return Integer.MIN_VALUE;
                case 3: return Integer.MAX_VALUE;
                default: return random.nextInt(below);
            }
        }

        private int thereSet() {
            int set = 0;
            for (int t = 0; t < 8; t++) {
                if (m.tokens[t] != null && random.nextInt(4) != 0) {
                    set |= 1 << t;
                }
            }
            return set;
        }

        private String name() {
            String[] names = {"h0", "h1", "r", "deep", "h0"};
            int pick = random.nextInt(names.length + 1);
            return pick < names.length ? names[pick] : letters(random.nextInt(64));
        }

        private String letters(int n) {
            StringBuilder s = new StringBuilder();
            for (int i = 0; i < n; i++) {
                s.append((char) random.nextInt(256));
            }
            return s.toString();
        }

        private String text(int tests) {
            StringBuilder s = new StringBuilder();
            for (int i = 0; i < tests; i++) {
                if (i > 0) {
                    s.append(random.nextBoolean() ? '&' : '|');
                }
                if (random.nextInt(3) == 0) {
                    s.append('!');
                }
                s.append((char) ('a' + random.nextInt(8))).append("<=>#".charAt(random.nextInt(4)));
                int number = random.nextInt(8) == 0 ? random.nextInt(1000000) : random.nextInt(5);
                String zeros = "000000";
                String digits = zeros.substring(random.nextInt(7)) + number;
                s.append(digits.length() > 6 ? Integer.toString(number) : digits);
            }
            return s.toString();
        }

        private String mess() {
            StringBuilder s = new StringBuilder(text(1 + random.nextInt(5)));
            String bytes = "!abhi<=>#0189&| /:`g\u00ff\u0000";
            for (int n = random.nextInt(3); n >= 0 && s.length() > 0; n--) {
                int i = random.nextInt(s.length());
                char c = bytes.charAt(random.nextInt(bytes.length()));
                switch (random.nextInt(3)) {
                    case 0: s.setCharAt(i, c); break;
                    case 1: s.insert(i, c); break;
                    default: s.deleteCharAt(i); break;
                }
            }
            return s.toString();
        }

        private byte[] key(int which) {
            byte[] k = new byte[which == 2 ? random.nextInt(101) : 32];
            Arrays.fill(k, (byte) (which * 91 + 200));
            return k;
        }

        private byte[] bytesOf(String s) {
            return s.getBytes(StandardCharsets.ISO_8859_1);
        }

        private void setRegister(int r, byte[] bytes) {
            clear(r);
            for (int i = 0; i < bytes.length; i += 8) {
                int n = Math.min(8, bytes.length - i);
                long w = 0;
                for (int k = n - 1; k >= 0; k--) {
                    w = w << 8 | bytes[i + k] & 255;
                }
                add(r, n, w);
            }
        }

        // -- the calls, on both

        private int due(String call, int got, int want) {
            calls++;
            if (got != want && calls <= CALLS) {
                wrong++;
                System.out.println("run " + number + ", call " + calls + ": " + call + " answered "
                        + got + ", the model " + want);
            }
            String seen = call.substring(0, call.indexOf('(')) + " " + got;
            SEEN.merge(seen, 1, Integer::sum);
            return got;
        }

        private static String text(String name, long... numbers) {
            return name + Arrays.toString(numbers).replace('[', '(').replace(']', ')');
        }

        private void add(int r, int n, long w) { due(text("add", r, n, w), x.add(r, n, w), m.add(r, n, w)); }
        private void clear(int r) { due(text("clear", r), x.clear(r), m.clear(r)); }
        private void at(int r, int i) { due(text("at", r, i), x.at(r, i), m.at(r, i)); }

        private void hash(int to, int of) {
            due(text("hash", to, of), x.hash(to, of), m.hash(to, of));
            sameRegister(to);
        }

        private void seal(int to, int k, int n) {
            due(text("seal", to, k, n), x.seal(to, k, n), m.seal(to, k, n));
            sameRegister(to);
        }

        private void sameRegister(int r) {
            int i = random.nextInt(33);
            at(r, i);
            at(r, 31);
        }

        private void make(int t, int k, int n) {
            due(text("make", t, k, n), x.make(t, k, n), m.make(t, k, n));
            sign(t, random.nextInt(32));
        }

        private void limit(int t, int r) {
            due(text("limit", t, r), x.limit(t, r), m.limit(t, r));
            sign(t, random.nextInt(32));
        }

        private void others(int t, int k, int r) {
            due(text("others", t, k, r), x.others(t, k, r), m.others(t, k, r));
            sign(t, random.nextInt(32));
        }

        private void bind(int t, int to) {
            due(text("bind", t, to), x.bind(t, to), m.bind(t, to));
            sign(t, random.nextInt(32));
        }

        private void copy(int t, int to) { due(text("copy", t, to), x.copy(t, to), m.copy(t, to)); }
        private void drop(int t) { due(text("drop", t), x.drop(t), m.drop(t)); }
        private void told(int t, int w) { due(text("told", t, w), x.told(t, w), m.told(t, w)); }
        private void sign(int t, int i) { due(text("sign", t, i), x.sign(t, i), m.sign(t, i)); }

        private void spoil(int t, int k, int i, int b) {
            due(text("spoil", t, k, i, b), x.spoil(t, k, i, b), m.spoil(t, k, i, b));
        }

        private void ask(int l, int v) { due(text("ask", l, v), x.ask(l, v), m.ask(l, v)); }
        private void truth(int r) { due(text("truth", r), x.truth(r), m.truth(r)); }

        private void prove(int t, int k, int set) {
            int got = due(text("prove", t, k, set), x.prove(t, k, set), m.prove(t, k, set));
            for (int what = 0; what < 3; what++) {
                fault(what);
            }
            SEEN.merge("begun " + m.fault(2) + " with " + got, 1, Integer::sum);
            if (got < -10 && m.fault(0) != t && got != -14) {
                SEEN.merge("fault in a helper", 1, Integer::sum);
            }
        }

        private void fault(int w) { due(text("fault", w), x.fault(w), m.fault(w)); }

        private void write(int t) {
            due(text("write", t), x.write(t), m.write(t));
            for (int i = 0; i < 4; i++) {
                tape(random.nextInt(m.tape.size() + 1));
            }
        }

        private void type(long w, int n) { due(text("type", w, n), x.type(w, n), m.type(w, n)); }
        private void tape(int i) { due(text("tape", i), x.tape(i), m.tapeAt(i)); }
        private void cut(int n) { due(text("cut", n), x.cut(n), m.cut(n)); }
        private void forge(int i, int b) { due(text("forge", i, b), x.forge(i, b), m.forge(i, b)); }

        private void read(int t) {
            due(text("read", t), x.read(t), m.read(t));
            place();
            sign(t, random.nextInt(32));
        }

        private void place() { due("place()", x.place(), m.place); }
    }

    /** One limit; without a lock it is an own one. Never changed once made. */
    private record Limit(byte[] text, byte[] lock) { }

    /** A token; never changed once made. */
    private record Token(byte[] name, List<Limit> limits, byte[] sign) { }

    /** A fault stops a walk or a reading at once. */
    private static final class Fault extends RuntimeException {
        private static final long serialVersionUID = 1;
        final int kind;
        final int where;
        final int limit;

        Fault(int kind, int where, int limit) {
            super(null, null, false, false);
            this.kind = kind;
            this.where = where;
            this.limit = limit;
        }
    }

    private static final class Model {
        private static final int BAD = -2;
        private static final int REFUSED = -3;
        private static final String TEST = "!?[a-h][<=>#][0-9]{1,6}";
        private static final Pattern TEXT = Pattern.compile(TEST + "([&|]" + TEST + ")*");

        final byte[][] registers = new byte[8][0];
        final Token[] tokens = new Token[8];
        List<Integer> tape = new ArrayList<>();
        final int[] request = new int[8];
        int place = -1;
        final int[] told = {-1, -1, -1};
        private List<Integer> left;
        private int cursor;

        static boolean eight(int... numbers) {
            return Arrays.stream(numbers).allMatch(n -> n >= 0 && n <= 7);
        }

        boolean there(int... numbers) {
            return Arrays.stream(numbers).allMatch(n -> eight(n) && tokens[n] != null);
        }

        static byte[] join(byte[]... parts) {
            ByteArrayOutputStream all = new ByteArrayOutputStream();
            for (byte[] p : parts) {
                all.writeBytes(p);
            }
            return all.toByteArray();
        }

        static byte[] sealOf(byte[] key, byte[] message) {
            try {
                Mac mac = Mac.getInstance("HmacSHA256");
                mac.init(new SecretKeySpec(key.length == 0 ? new byte[1] : key, "HmacSHA256"));
                return mac.doFinal(message);
            } catch (java.security.GeneralSecurityException e) {
                throw new IllegalStateException(e);
            }
        }

        static byte[] xor(byte[] a, byte[] b) {
            byte[] c = new byte[32];
            for (int i = 0; i < 32; i++) {
                c[i] = (byte) (a[i] ^ b[i]);
            }
            return c;
        }

        static byte[] lowest(long w, int n) {
            byte[] b = new byte[n];
            for (int i = 0; i < n; i++) {
                b[i] = (byte) (w >> 8 * i);
            }
            return b;
        }

        static byte[] next(byte[] s, Limit l) {
            return l.lock == null ? sealOf(s, l.text)
                    : sealOf(s, join(sealOf(s, l.lock), sealOf(s, l.text)));
        }

        static byte[] bound(byte[] s, byte[] other) {
            return sealOf(new byte[32], join(other, s));
        }

        int add(int r, int n, long w) {
            if (!eight(r) || n < 1 || n > 8) {
                return BAD;
            }
            if (registers[r].length + n > 100) {
                return REFUSED;
            }
            registers[r] = join(registers[r], lowest(w, n));
            return registers[r].length;
        }

        int clear(int r) {
            if (!eight(r)) {
                return BAD;
            }
            int had = registers[r].length;
            registers[r] = new byte[0];
            return had;
        }

        int at(int r, int i) {
            return !eight(r) ? BAD : i < 0 || i >= registers[r].length ? -1 : registers[r][i] & 255;
        }

        int hash(int to, int of) {
            if (!eight(to, of)) {
                return BAD;
            }
            try {
                registers[to] = MessageDigest.getInstance("SHA-256").digest(registers[of]);
            } catch (java.security.GeneralSecurityException e) {
                throw new IllegalStateException(e);
            }
            return 32;
        }

        int seal(int to, int k, int n) {
            if (!eight(to, k, n)) {
                return BAD;
            }
            registers[to] = sealOf(registers[k], registers[n]);
            return 32;
        }

        int make(int t, int k, int n) {
            if (!eight(t, k, n)) {
                return BAD;
            }
            if (registers[n].length < 1 || registers[n].length > 60) {
                return REFUSED;
            }
            tokens[t] = new Token(registers[n], List.of(), sealOf(registers[k], registers[n]));
            return 0;
        }

        private int grow(int t, Limit l) {
            Token old = tokens[t];
            List<Limit> limits = new ArrayList<>(old.limits);
            limits.add(l);
            tokens[t] = new Token(old.name, limits, next(old.sign, l));
            return limits.size();
        }

        private boolean refuses(int t, int r) {
            return registers[r].length < 1 || registers[r].length > 60 || tokens[t].limits.size() == 10;
        }

        int limit(int t, int r) {
            return !there(t) || !eight(r) ? BAD
                    : refuses(t, r) ? REFUSED : grow(t, new Limit(registers[r], null));
        }

        int others(int t, int k, int r) {
            if (!there(t) || !eight(k, r)) {
                return BAD;
            }
            if (refuses(t, r) || registers[k].length != 32) {
                return REFUSED;
            }
            return grow(t, new Limit(registers[r], xor(registers[k], sealOf(tokens[t].sign, registers[r]))));
        }

        int bind(int t, int to) {
            if (!there(t, to)) {
                return BAD;
            }
            tokens[t] = new Token(tokens[t].name, tokens[t].limits, bound(tokens[t].sign, tokens[to].sign));
            return 0;
        }

        int copy(int t, int to) {
            if (!there(t) || !eight(to)) {
                return BAD;
            }
            tokens[to] = tokens[t];
            return tokens[t].limits.size();
        }

        int drop(int t) {
            if (!eight(t)) {
                return BAD;
            }
            int was = tokens[t] == null ? 0 : 1;
            tokens[t] = null;
            return was;
        }

        int told(int t, int what) {
            if (!there(t) || what < 0 || what > 11) {
                return BAD;
            }
            List<Limit> limits = tokens[t].limits;
            if (what < 2) {
                return what == 0 ? tokens[t].name.length : limits.size();
            }
            if (what - 2 >= limits.size()) {
                return 0;
            }
            Limit l = limits.get(what - 2);
            return l.text.length + (l.lock == null ? 0 : 100);
        }

        int sign(int t, int i) {
            return !there(t) || i < 0 || i > 31 ? BAD : tokens[t].sign[i] & 255;
        }

        int spoil(int t, int k, int i, int b) {
            if (!there(t) || k < 0 || k > 10 || k > tokens[t].limits.size() || b < 0 || b > 255) {
                return BAD;
            }
            Token old = tokens[t];
            byte[] part = (k == 0 ? old.sign : old.limits.get(k - 1).text).clone();
            if (i < 0 || i >= part.length) {
                return BAD;
            }
            part[i] ^= (byte) b;
            if (k == 0) {
                tokens[t] = new Token(old.name, old.limits, part);
            } else {
                List<Limit> limits = new ArrayList<>(old.limits);
                limits.set(k - 1, new Limit(part, limits.get(k - 1).lock));
                tokens[t] = new Token(old.name, limits, old.sign);
            }
            return part[i] & 255;
        }

        int ask(int l, int v) {
            if (!eight(l) || v < 0 || v > 999999) {
                return BAD;
            }
            int was = request[l];
            request[l] = v;
            return was;
        }

        int truth(int r) {
            return eight(r) ? truthOf(registers[r]) : BAD;
        }

        int truthOf(byte[] bytes) {
            String text = new String(bytes, StandardCharsets.ISO_8859_1);
            if (!TEXT.matcher(text).matches()) {
                return -1;
            }
            return Arrays.stream(text.split("\\|")).anyMatch(
                    clause -> Arrays.stream(clause.split("&")).allMatch(this::holds)) ? 1 : 0;
        }

        boolean holds(String test) {
            if (test.startsWith("!")) {
                return !holds(test.substring(1));
            }
            int v = request[test.charAt(0) - 'a'];
            int n = Integer.parseInt(test.substring(2));
            return switch (test.charAt(1)) {
                case '<' -> v < n;
                case '=' -> v == n;
                case '>' -> v > n;
                default -> v == 0 || n != 0 && v / n * n == v;
            };
        }

        int prove(int t, int k, int set) {
            if (!there(t) || !eight(k) || set < 0 || set > 255) {
                return BAD;
            }
            List<Integer> helpers = new ArrayList<>();
            for (int h = 0; h < 8; h++) {
                if ((set & 1 << h) != 0) {
                    if (!there(h)) {
                        return BAD;
                    }
                    if (h != t) {
                        helpers.add(h);
                    }
                }
            }
            left = helpers;
            Arrays.fill(told, -1);
            told[2] = 0;
            try {
                byte[] s = walk(t, registers[k], tokens[t].sign);
                if (!Arrays.equals(s, tokens[t].sign)) {
                    throw new Fault(5, t, tokens[t].limits.size());
                }
                return 0;
            } catch (Fault f) {
                told[0] = f.where;
                told[1] = f.limit;
                return -10 - f.kind;
            }
        }

        private byte[] walk(int t, byte[] key, byte[] provedSign) {
            byte[] s = sealOf(key, tokens[t].name);
            int number = 0;
            for (Limit l : tokens[t].limits) {
                if (l.lock == null) {
                    int truth = truthOf(l.text);
                    if (truth != 1) {
                        throw new Fault(truth == 0 ? 2 : 1, t, number);
                    }
                } else {
                    int h = left.stream().filter(c -> Arrays.equals(tokens[c].name, l.text))
                            .mapToInt(Integer::intValue).min().orElse(-1);
                    if (h < 0) {
                        throw new Fault(3, t, number);
                    }
                    left.remove(Integer.valueOf(h));
                    told[2]++;
                    byte[] comes = walk(h, xor(l.lock, sealOf(s, l.text)), provedSign);
                    if (!Arrays.equals(bound(comes, provedSign), tokens[h].sign)) {
                        throw new Fault(4, h, number);
                    }
                }
                s = next(s, l);
                number++;
            }
            return s;
        }

        int fault(int what) {
            return what < 0 || what > 2 ? BAD : told[what];
        }

        private void put(byte... bytes) {
            for (byte b : bytes) {
                tape.add(b & 255);
            }
        }

        int write(int t) {
            if (!there(t)) {
                return BAD;
            }
            tape = new ArrayList<>();
            Token k = tokens[t];
            put((byte) 2, (byte) 2, (byte) k.name.length);
            put(k.name);
            put((byte) 0);
            for (Limit l : k.limits) {
                put((byte) 2, (byte) l.text.length);
                put(l.text);
                if (l.lock != null) {
                    put((byte) 4, (byte) 32);
                    put(l.lock);
                }
                put((byte) 0);
            }
            put((byte) 0, (byte) 6, (byte) 32);
            put(k.sign);
            return tape.size();
        }

        int type(long w, int n) {
            if (n < 1 || n > 8) {
                return BAD;
            }
            if (tape.size() + n > 1200) {
                return REFUSED;
            }
            put(lowest(w, n));
            return tape.size();
        }

        int tapeAt(int i) {
            return i < 0 || i >= tape.size() ? -1 : tape.get(i);
        }

        int cut(int n) {
            if (n < 0 || n > tape.size()) {
                return BAD;
            }
            int went = tape.size() - n;
            tape = new ArrayList<>(tape.subList(0, n));
            return went;
        }

        int forge(int i, int b) {
            if (i < 0 || i >= tape.size() || b < 0 || b > 255) {
                return BAD;
            }
            tape.set(i, tape.get(i) ^ b);
            return tape.get(i);
        }

        int read(int t) {
            if (!eight(t)) {
                return BAD;
            }
            place = -1;
            cursor = 0;
            try {
                tokens[t] = parse();
                return tokens[t].limits.size();
            } catch (Fault f) {
                place = f.where;
                return -10 - f.kind;
            }
        }

        private Token parse() {
            oneOf(2);
            oneOf(2);
            byte[] name = counted(1, 60);
            oneOf(0);
            List<Limit> limits = new ArrayList<>();
            while (oneOf(2, 0) == 2) {
                if (limits.size() == 10) {
                    throw new Fault(4, cursor - 1, 0);
                }
                byte[] text = counted(1, 60);
                byte[] lock = null;
                if (oneOf(4, 0) == 4) {
                    lock = counted(32, 32);
                    oneOf(0);
                }
                limits.add(new Limit(text, lock));
            }
            oneOf(6);
            byte[] sign = counted(32, 32);
            if (cursor < tape.size()) {
                throw new Fault(5, cursor, 0);
            }
            return new Token(name, limits, sign);
        }

        private int take() {
            if (cursor == tape.size()) {
                throw new Fault(1, cursor, 0);
            }
            return tape.get(cursor++);
        }

        private int oneOf(int... wanted) {
            int b = take();
            if (Arrays.stream(wanted).noneMatch(w -> w == b)) {
                throw new Fault(2, cursor - 1, 0);
            }
            return b;
        }

        private byte[] counted(int least, int most) {
            int n = take();
            if (n < least || n > most) {
                throw new Fault(3, cursor - 1, 0);
            }
            byte[] bytes = new byte[n];
            for (int i = 0; i < n; i++) {
                bytes[i] = (byte) take();
            }
            return bytes;
        }
    }
}
