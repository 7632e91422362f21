/**
 * Tokens that carry their own limits, held together by a chain of keyed hashes.
 * The document DOC.md says what each call must do; its words are used here.
 */
public final class LimitTokens {
    public static final int NONE = -1;
    public static final int BAD = -2;
    public static final int REFUSED = -3;

    private static final int REGISTERS = 8;
    private static final int TOKENS = 8;
    private static final int LETTERS = 8;
    private static final int REGISTER_MOST = 100;
    private static final int TAPE_MOST = 1200;
    private static final int WORDING_MOST = 60;
    private static final int LIMITS_MOST = 10;
    private static final int HASH_LENGTH = 32;
    private static final int NUMBER_MOST = 999999;
    private static final int FAULT_BASE = -10;

    private static final int MARK_PART = 2;
    private static final int MARK_LOCK = 4;
    private static final int MARK_SIGN = 6;
    private static final int MARK_END = 0;

    private final Row[] registers = new Row[REGISTERS];
    private final Prover prover = new Prover();
    private final TapeReader reader = new TapeReader();
    private final Token spare = new Token();
    // The parts below belong to the prover, the judge and the reader, so that this
    // constructor hands out nothing of the object that it makes.
    private final Token[] tokens = prover.tokens;
    private final Sealer sealer = prover.sealer;
    private final Judge judge = prover.judge;
    private final int[] request = judge.request;
    private final Row tape = reader.source;

    public LimitTokens() {
        for (int r = 0; r < REGISTERS; r++) {
            registers[r] = new Row(REGISTER_MOST);
        }
    }

    public int add(int r, int n, long w) {
        if (!isRegister(r) || !isWidth(n)) {
            return BAD;
        }
        return pushLowest(registers[r], n, w);
    }

    public int clear(int r) {
        if (!isRegister(r)) {
            return BAD;
        }
        int had = registers[r].length;
        registers[r].makeEmpty();
        return had;
    }

    public int at(int r, int i) {
        return isRegister(r) ? registers[r].byteAt(i) : BAD;
    }

    public int hash(int to, int of) {
        if (!isRegister(to) || !isRegister(of)) {
            return BAD;
        }
        sealer.hashInto(registers[to], registers[of]);
        return registers[to].length;
    }

    public int seal(int to, int k, int m) {
        if (!isRegister(to) || !isRegister(k) || !isRegister(m)) {
            return BAD;
        }
        sealer.sealInto(registers[to], registers[k], registers[m]);
        return registers[to].length;
    }

    public int make(int t, int key, int name) {
        if (!isTokenNumber(t) || !isRegister(key) || !isRegister(name)) {
            return BAD;
        }
        if (!isWordingLength(registers[name].length)) {
            return REFUSED;
        }
        Token token = tokens[t];
        token.there = true;
        token.count = 0;
        token.name.takeOver(registers[name]);
        sealer.sealInto(token.sign, registers[key], token.name);
        return 0;
    }

    public int limit(int t, int text) {
        if (!isThere(t) || !isRegister(text)) {
            return BAD;
        }
        Token token = tokens[t];
        if (!isWordingLength(registers[text].length) || token.isFull()) {
            return REFUSED;
        }
        Limit added = token.limits[token.count];
        added.text.takeOver(registers[text]);
        added.lock.makeEmpty();
        sealer.goOnOwn(token.sign, added);
        token.count++;
        return token.count;
    }

    public int others(int t, int key, int text) {
        if (!isThere(t) || !isRegister(key) || !isRegister(text)) {
            return BAD;
        }
        Token token = tokens[t];
        if (!isWordingLength(registers[text].length) || token.isFull()
                || registers[key].length != HASH_LENGTH) {
            return REFUSED;
        }
        Limit added = token.limits[token.count];
        added.text.takeOver(registers[text]);
        sealer.turnKey(added.lock, registers[key], token.sign, added.text);
        sealer.goOnOthers(token.sign, added);
        token.count++;
        return token.count;
    }

    public int bind(int t, int to) {
        if (!isThere(t) || !isThere(to)) {
            return BAD;
        }
        sealer.bindSign(tokens[t].sign, tokens[to].sign);
        return 0;
    }

    public int copy(int t, int to) {
        if (!isThere(t) || !isTokenNumber(to)) {
            return BAD;
        }
        tokens[to].takeOver(tokens[t]);
        return tokens[to].count;
    }

    public int drop(int t) {
        if (!isTokenNumber(t)) {
            return BAD;
        }
        boolean was = tokens[t].there;
        tokens[t].there = false;
        return was ? 1 : 0;
    }

    public int told(int t, int what) {
        if (!isThere(t) || what < 0 || what > LIMITS_MOST + 1) {
            return BAD;
        }
        if (what == 0) {
            return tokens[t].name.length;
        }
        return what == 1 ? tokens[t].count : tokens[t].limitTold(what - 2);
    }

    public int sign(int t, int i) {
        if (!isThere(t) || !tokens[t].sign.has(i)) {
            return BAD;
        }
        return tokens[t].sign.byteAt(i);
    }

    public int spoil(int t, int k, int i, int x) {
        if (!isThere(t) || k < 0 || k > tokens[t].count || !isByte(x)) {
            return BAD;
        }
        Row spoilt = k == 0 ? tokens[t].sign : tokens[t].limits[k - 1].text;
        return spoilt.has(i) ? spoilt.flip(i, x) : BAD;
    }

    public int ask(int letter, int v) {
        if (letter < 0 || letter >= LETTERS || v < 0 || v > NUMBER_MOST) {
            return BAD;
        }
        int was = request[letter];
        request[letter] = v;
        return was;
    }

    public int truth(int r) {
        return isRegister(r) ? judge.judgeText(registers[r]) : BAD;
    }

    public int prove(int t, int key, int helpers) {
        if (!isThere(t) || !isRegister(key) || !areThere(helpers)) {
            return BAD;
        }
        prover.begin(t, helpers);
        if (prover.walk(t, registers[key], 0)) {
            prover.compareSign();
        }
        return prover.found == 0 ? 0 : FAULT_BASE - prover.found;
    }

    public int fault(int what) {
        switch (what) {
            case 0:
                return prover.foundToken;
            case 1:
                return prover.foundLimit;
            case 2:
                return prover.begun;
            default:
                return BAD;
        }
    }

    public int write(int t) {
        if (!isThere(t)) {
            return BAD;
        }
        tape.makeEmpty();
        tokens[t].putOn(tape);
        return tape.length;
    }

    public int type(long w, int n) {
        return isWidth(n) ? pushLowest(tape, n, w) : BAD;
    }

    public int tape(int i) {
        return tape.byteAt(i);
    }

    public int cut(int n) {
        if (n < 0 || n > tape.length) {
            return BAD;
        }
        int went = tape.length - n;
        tape.length = n;
        return went;
    }

    public int forge(int i, int x) {
        return tape.has(i) && isByte(x) ? tape.flip(i, x) : BAD;
    }

    public int read(int t) {
        if (!isTokenNumber(t)) {
            return BAD;
        }
        // The spare takes what is read, so that a fault leaves token t as it was.
        if (!reader.readToken(spare)) {
            return FAULT_BASE - reader.found;
        }
        tokens[t].takeOver(spare);
        return tokens[t].count;
    }

    public int place() {
        return reader.foundPlace;
    }

    private static boolean isRegister(int r) {
        return r >= 0 && r < REGISTERS;
    }

    private static boolean isTokenNumber(int t) {
        return t >= 0 && t < TOKENS;
    }

    private static boolean isWidth(int n) {
        return n >= 1 && n <= 8;
    }

    private static boolean isByte(int x) {
        return x >= 0 && x <= 255;
    }

    private static boolean isWordingLength(int n) {
        return n >= 1 && n <= WORDING_MOST;
    }

    private boolean isThere(int t) {
        return isTokenNumber(t) && tokens[t].there;
    }

    private boolean areThere(int set) {
        if (set < 0 || set >= 1 << TOKENS) {
            return false;
        }
        for (int t = 0; t < TOKENS; t++) {
            if ((set >> t & 1) == 1 && !tokens[t].there) {
                return false;
            }
        }
        return true;
    }

    private static int pushLowest(Row row, int n, long w) {
        if (!row.hasRoomFor(n)) {
            return REFUSED;
        }
        for (int i = 0; i < n; i++) {
            row.push((int) (w >>> 8 * i) & 255);
        }
        return row.length;
    }

    /** Bytes 0 .. 255 in a row that is made once and used again. */
    private static final class Row {
        final int[] bytes;
        int length;

        Row(int most) {
            bytes = new int[Math.max(0, most)];
        }

        boolean has(int i) {
            return i >= 0 && i < length;
        }

        boolean hasRoomFor(int more) {
            return more <= bytes.length - length;
        }

        int byteAt(int i) {
            return i >= 0 && i < length ? bytes[i] : NONE;
        }

        void makeEmpty() {
            length = 0;
        }

        void push(int b) {
            if (length < bytes.length) {
                bytes[length] = b;
                length++;
            }
        }

        void pushWord(int word) {
            if (length <= bytes.length - 4) {
                bytes[length] = word >>> 24;
                bytes[length + 1] = word >>> 16 & 255;
                bytes[length + 2] = word >>> 8 & 255;
                bytes[length + 3] = word & 255;
                length += 4;
            }
        }

        void pushZeros(int n) {
            for (int i = 0; i < n && length < bytes.length; i++) {
                bytes[length] = 0;
                length++;
            }
        }

        void pushAll(Row other) {
            pushPart(other, 0, other.length);
        }

        void pushPart(Row other, int from, int n) {
            if (from >= 0 && n >= 0 && n <= other.length - from && n <= bytes.length - length) {
                System.arraycopy(other.bytes, from, bytes, length, n);
                length += n;
            }
        }

        void takeOver(Row other) {
            if (other != this) {
                length = 0;
                pushPart(other, 0, other.length);
            }
        }

        int flip(int i, int x) {
            if (!has(i)) {
                return NONE;
            }
            bytes[i] ^= x;
            return bytes[i];
        }

        boolean isSameAs(Row other) {
            if (length != other.length) {
                return false;
            }
            for (int i = 0; i < length; i++) {
                if (bytes[i] != other.bytes[i]) {
                    return false;
                }
            }
            return true;
        }
    }

    /** A limit of a token; an own one has a lock without bytes. */
    private static final class Limit {
        final Row text = new Row(WORDING_MOST);
        final Row lock = new Row(HASH_LENGTH);

        boolean isOfOthers() {
            return lock.length > 0;
        }

        void takeOver(Limit other) {
            text.takeOver(other.text);
            lock.takeOver(other.lock);
        }

        void putOn(Row to) {
            to.push(MARK_PART);
            to.push(text.length);
            to.pushAll(text);
            if (isOfOthers()) {
                to.push(MARK_LOCK);
                to.push(HASH_LENGTH);
                to.pushAll(lock);
            }
            to.push(MARK_END);
        }
    }

    private static final class Token {
        final Row name = new Row(WORDING_MOST);
        final Row sign = new Row(HASH_LENGTH);
        final Limit[] limits = new Limit[LIMITS_MOST];
        int count;
        boolean there;

        Token() {
            for (int i = 0; i < LIMITS_MOST; i++) {
                limits[i] = new Limit();
            }
        }

        boolean isFull() {
            return count >= LIMITS_MOST;
        }

        int limitTold(int i) {
            if (i < 0 || i >= count) {
                return 0;
            }
            return limits[i].text.length + (limits[i].isOfOthers() ? 100 : 0);
        }

        void takeOver(Token other) {
            name.takeOver(other.name);
            sign.takeOver(other.sign);
            for (int i = 0; i < other.count; i++) {
                limits[i].takeOver(other.limits[i]);
            }
            count = other.count;
            there = other.there;
        }

        void putOn(Row to) {
            to.push(MARK_PART);
            to.push(MARK_PART);
            to.push(name.length);
            to.pushAll(name);
            to.push(MARK_END);
            for (int i = 0; i < count; i++) {
                limits[i].putOn(to);
            }
            to.push(MARK_END);
            to.push(MARK_SIGN);
            to.push(HASH_LENGTH);
            to.pushAll(sign);
        }
    }

    /** THE HASH, THE SEAL, and how a sign goes on with them. */
    private static final class Sealer {
        private static final int BLOCK = 64;
        private static final int WORK_MOST = 4 * BLOCK;

        private static final int[] SQUARE_ROOTS = {
            0x6a09e667, 0xbb67ae85, 0x3c6ef372, 0xa54ff53a,
            0x510e527f, 0x9b05688c, 0x1f83d9ab, 0x5be0cd19,
        };

        private static final int[] CUBE_ROOTS = {
            0x428a2f98, 0x71374491, 0xb5c0fbcf, 0xe9b5dba5,
            0x3956c25b, 0x59f111f1, 0x923f82a4, 0xab1c5ed5,
            0xd807aa98, 0x12835b01, 0x243185be, 0x550c7dc3,
            0x72be5d74, 0x80deb1fe, 0x9bdc06a7, 0xc19bf174,
            0xe49b69c1, 0xefbe4786, 0x0fc19dc6, 0x240ca1cc,
            0x2de92c6f, 0x4a7484aa, 0x5cb0a9dc, 0x76f988da,
            0x983e5152, 0xa831c66d, 0xb00327c8, 0xbf597fc7,
            0xc6e00bf3, 0xd5a79147, 0x06ca6351, 0x14292967,
            0x27b70a85, 0x2e1b2138, 0x4d2c6dfc, 0x53380d13,
            0x650a7354, 0x766a0abb, 0x81c2c92e, 0x92722c85,
            0xa2bfe8a1, 0xa81a664b, 0xc24b8b70, 0xc76c51a3,
            0xd192e819, 0xd6990624, 0xf40e3585, 0x106aa070,
            0x19a4c116, 0x1e376c08, 0x2748774c, 0x34b0bcb5,
            0x391c0cb3, 0x4ed8aa4a, 0x5b9cca4f, 0x682e6ff3,
            0x748f82ee, 0x78a5636f, 0x84c87814, 0x8cc70208,
            0x90befffa, 0xa4506ceb, 0xbef9a3f7, 0xc67178f2,
        };

        private final int[] state = new int[8];
        private final int[] words = new int[64];
        /** What is hashed. A seal's longest is 64 bytes and a register's 100, 192 when padded. */
        private final Row work = new Row(WORK_MOST);
        private final Row keyBlock = new Row(BLOCK);
        private final Row inner = new Row(HASH_LENGTH);
        private final Row pair = new Row(2 * HASH_LENGTH);
        private final Row textSeal = new Row(HASH_LENGTH);
        private final Row lockSeal = new Row(HASH_LENGTH);
        private final Row zeroKey = new Row(HASH_LENGTH);

        Sealer() {
            zeroKey.pushZeros(HASH_LENGTH);
        }

        void hashInto(Row to, Row of) {
            work.takeOver(of);
            hashWork(to);
        }

        /** The row that it comes to is written last, so it may be the key or the message too. */
        void sealInto(Row to, Row key, Row message) {
            if (key.length > BLOCK) {
                work.takeOver(key);
                hashWork(keyBlock);
            } else {
                keyBlock.takeOver(key);
            }
            keyBlock.pushZeros(BLOCK - keyBlock.length);
            startWork(54);
            work.pushAll(message);
            hashWork(inner);
            startWork(92);
            work.pushAll(inner);
            hashWork(to);
        }

        void goOnOwn(Row s, Limit limit) {
            sealInto(s, s, limit.text);
        }

        void goOnOthers(Row s, Limit limit) {
            sealInto(lockSeal, s, limit.lock);
            sealInto(textSeal, s, limit.text);
            pair.takeOver(lockSeal);
            pair.pushAll(textSeal);
            sealInto(s, s, pair);
        }

        /** Makes the lock of a key and the key of a lock: ^ undoes itself. */
        void turnKey(Row to, Row from, Row s, Row text) {
            sealInto(textSeal, s, text);
            to.takeOver(from);
            for (int i = 0; i < HASH_LENGTH; i++) {
                to.flip(i, textSeal.byteAt(i));
            }
        }

        void bindSign(Row s, Row otherSign) {
            pair.takeOver(otherSign);
            pair.pushAll(s);
            sealInto(s, zeroKey, pair);
        }

        private void startWork(int mask) {
            work.makeEmpty();
            for (int i = 0; i < keyBlock.length; i++) {
                work.push(keyBlock.byteAt(i) ^ mask);
            }
        }

        private void hashWork(Row to) {
            int bits = 8 * work.length;
            work.push(128);
            work.pushZeros((2 * BLOCK - 8 - work.length % BLOCK) % BLOCK);
            work.pushWord(0);
            work.pushWord(bits);
            System.arraycopy(SQUARE_ROOTS, 0, state, 0, 8);
            for (int from = 0; from + BLOCK <= work.length; from += BLOCK) {
                spreadWords(from);
                mixWords();
            }
            to.makeEmpty();
            for (int i = 0; i < 8; i++) {
                to.pushWord(state[i]);
            }
        }

        private void mixWords() {
            int a = state[0];
            int b = state[1];
            int c = state[2];
            int d = state[3];
            int e = state[4];
            int f = state[5];
            int g = state[6];
            int h = state[7];
            for (int t = 0; t < 64; t++) {
                int x = h + ((e >>> 6 | e << 26) ^ (e >>> 11 | e << 21) ^ (e >>> 25 | e << 7))
                        + ((e & f) ^ (~e & g)) + CUBE_ROOTS[t] + words[t];
                int y = ((a >>> 2 | a << 30) ^ (a >>> 13 | a << 19) ^ (a >>> 22 | a << 10))
                        + ((a & b) ^ (a & c) ^ (b & c));
                h = g;
                g = f;
                f = e;
                e = d + x;
                d = c;
                c = b;
                b = a;
                a = x + y;
            }
            state[0] += a;
            state[1] += b;
            state[2] += c;
            state[3] += d;
            state[4] += e;
            state[5] += f;
            state[6] += g;
            state[7] += h;
        }

        /** The caller has tested that a whole block lies behind from. */
        private void spreadWords(int from) {
            int[] bytes = work.bytes;
            for (int t = 0; t < 16; t++) {
                int i = from + 4 * t;
                words[t] = bytes[i] << 24 | bytes[i + 1] << 16 | bytes[i + 2] << 8 | bytes[i + 3];
            }
            for (int t = 16; t < 64; t++) {
                int a = words[t - 15];
                int b = words[t - 2];
                words[t] = words[t - 16]
                        + ((a >>> 7 | a << 25) ^ (a >>> 18 | a << 14) ^ (a >>> 3))
                        + words[t - 7]
                        + ((b >>> 17 | b << 15) ^ (b >>> 19 | b << 13) ^ (b >>> 10));
            }
        }
    }

    /** Tells whether a text is true for the request, or wrong. */
    private static final class Judge {
        private static final int DIGITS_MOST = 6;

        final int[] request = new int[LETTERS];
        private int position;

        /** 1, 0 or NONE. All of the text is looked at: what is wrong behind counts too. */
        int judgeText(Row text) {
            boolean one = false;
            boolean all = true;
            position = 0;
            for (int tests = 0; tests <= text.length; tests++) {
                int test = judgeTest(text);
                if (test == NONE) {
                    return NONE;
                }
                all = all && test == 1;
                int joint = text.byteAt(position);
                position++;
                if (joint != '&') {
                    one = one || all;
                    all = true;
                }
                if (joint == NONE) {
                    return one ? 1 : 0;
                }
                if (joint != '&' && joint != '|') {
                    return NONE;
                }
            }
            return NONE;
        }

        private int judgeTest(Row text) {
            boolean not = text.byteAt(position) == '!';
            if (not) {
                position++;
            }
            int letter = text.byteAt(position) - 'a';
            int kind = text.byteAt(position + 1);
            position += 2;
            int number = takeNumber(text);
            if (letter < 0 || letter >= LETTERS || !isKind(kind) || number == NONE) {
                return NONE;
            }
            return holds(request[letter], kind, number) != not ? 1 : 0;
        }

        /** A seventh digit is left, where no joint can be: that makes the text wrong. */
        private int takeNumber(Row text) {
            int number = NONE;
            for (int digits = 0; digits < DIGITS_MOST; digits++) {
                int digit = text.byteAt(position) - '0';
                if (digit < 0 || digit > 9) {
                    return number;
                }
                number = Math.max(0, number) * 10 + digit;
                position++;
            }
            return number;
        }

        private static boolean isKind(int kind) {
            return kind == '<' || kind == '=' || kind == '>' || kind == '#';
        }

        private static boolean holds(int asked, int kind, int number) {
            switch (kind) {
                case '<':
                    return asked < number;
                case '=':
                    return asked == number;
                case '>':
                    return asked > number;
                default:
                    return number == 0 ? asked == 0 : asked % number == 0;
            }
        }
    }

    /** Walks a token and its helpers; keeps what fault() tells of the latest prove(). */
    private static final class Prover {
        private static final int WRONG = 1;
        private static final int NOT_TRUE = 2;
        private static final int NO_HELPER = 3;
        private static final int NOT_BOUND = 4;
        private static final int NOT_SIGN = 5;

        final Token[] tokens = new Token[TOKENS];
        final Sealer sealer = new Sealer();
        final Judge judge = new Judge();
        /** A row for each depth: each token is walked once at most. */
        private final Row[] signs = new Row[TOKENS];
        private final Row[] keys = new Row[TOKENS];
        private int proved;
        private int waiting;
        int found;
        int foundToken = NONE;
        int foundLimit = NONE;
        int begun = NONE;

        Prover() {
            for (int i = 0; i < TOKENS; i++) {
                tokens[i] = new Token();
                signs[i] = new Row(HASH_LENGTH);
                keys[i] = new Row(HASH_LENGTH);
            }
        }

        void begin(int t, int helpers) {
            proved = t;
            waiting = helpers & ~(1 << t);
            found = 0;
            foundToken = NONE;
            foundLimit = NONE;
            begun = 0;
        }

        /** Whether no fault was found; what comes of the walk is then in signs[depth]. */
        private boolean walk(int t, Row key, int depth) {
            Token walked = tokens[t];
            sealer.sealInto(signs[depth], key, walked.name);
            for (int i = 0; i < walked.count; i++) {
                boolean passed = walked.limits[i].isOfOthers()
                        ? passOthers(t, i, depth) : passOwn(t, i, depth);
                if (!passed) {
                    return false;
                }
            }
            return true;
        }

        void compareSign() {
            if (!signs[0].isSameAs(tokens[proved].sign)) {
                stopAt(NOT_SIGN, proved, tokens[proved].count);
            }
        }

        private boolean passOwn(int t, int i, int depth) {
            Limit limit = tokens[t].limits[i];
            int truth = judge.judgeText(limit.text);
            if (truth != 1) {
                return stopAt(truth == NONE ? WRONG : NOT_TRUE, t, i);
            }
            sealer.goOnOwn(signs[depth], limit);
            return true;
        }

        private boolean passOthers(int t, int i, int depth) {
            Limit limit = tokens[t].limits[i];
            // Below the last depth no helper can be left; the test keeps the rows' ends all the same.
            int helper = depth + 1 < TOKENS ? helperNamed(limit.text) : NONE;
            if (helper == NONE) {
                return stopAt(NO_HELPER, t, i);
            }
            waiting &= ~(1 << helper);
            begun++;
            sealer.turnKey(keys[depth], limit.lock, signs[depth], limit.text);
            if (!walk(helper, keys[depth], depth + 1)) {
                return false;
            }
            Row bound = signs[depth + 1];
            sealer.bindSign(bound, tokens[proved].sign);
            if (!bound.isSameAs(tokens[helper].sign)) {
                return stopAt(NOT_BOUND, helper, i);
            }
            sealer.goOnOthers(signs[depth], limit);
            return true;
        }

        private int helperNamed(Row text) {
            for (int t = 0; t < TOKENS; t++) {
                if ((waiting >> t & 1) == 1 && tokens[t].name.isSameAs(text)) {
                    return t;
                }
            }
            return NONE;
        }

        private boolean stopAt(int fault, int t, int i) {
            found = fault;
            foundToken = t;
            foundLimit = i;
            return false;
        }
    }

    /** Reads the tape as a token; keeps the place of the fault of the latest read(). */
    private static final class TapeReader {
        private static final int ENDED = 1;
        private static final int UNWANTED = 2;
        private static final int LENGTH = 3;
        private static final int ELEVENTH = 4;
        private static final int BEHIND = 5;

        final Row source = new Row(TAPE_MOST);
        private int position;
        int found;
        int foundPlace = NONE;

        /** Whether the tape is a token; if not, the token is left half read. */
        boolean readToken(Token token) {
            position = 0;
            found = 0;
            foundPlace = NONE;
            token.there = true;
            token.count = 0;
            return takeMark(MARK_PART) && takeMark(MARK_PART)
                    && takeBytes(token.name, 1, WORDING_MOST) && takeMark(MARK_END)
                    && takeLimits(token)
                    && takeMark(MARK_END) && takeMark(MARK_SIGN)
                    && takeBytes(token.sign, HASH_LENGTH, HASH_LENGTH)
                    && (position == source.length || stopAt(BEHIND));
        }

        private boolean takeLimits(Token token) {
            for (int i = 0; i < LIMITS_MOST; i++) {
                if (source.byteAt(position) != MARK_PART) {
                    return true;
                }
                if (!takeLimit(token.limits[i])) {
                    return false;
                }
                token.count++;
            }
            return source.byteAt(position) != MARK_PART || stopAt(ELEVENTH);
        }

        private boolean takeLimit(Limit limit) {
            if (!takeMark(MARK_PART) || !takeBytes(limit.text, 1, WORDING_MOST)) {
                return false;
            }
            limit.lock.makeEmpty();
            if (source.byteAt(position) == MARK_LOCK) {
                position++;
                if (!takeBytes(limit.lock, HASH_LENGTH, HASH_LENGTH)) {
                    return false;
                }
            }
            return takeMark(MARK_END);
        }

        private boolean takeMark(int mark) {
            if (!source.has(position)) {
                return stopAt(ENDED);
            }
            if (source.byteAt(position) != mark) {
                return stopAt(UNWANTED);
            }
            position++;
            return true;
        }

        private boolean takeBytes(Row to, int least, int most) {
            if (!source.has(position)) {
                return stopAt(ENDED);
            }
            int n = source.byteAt(position);
            if (n < least || n > most) {
                return stopAt(LENGTH);
            }
            position++;
            if (n > source.length - position) {
                position = source.length;
                return stopAt(ENDED);
            }
            to.makeEmpty();
            to.pushPart(source, position, n);
            position += n;
            return true;
        }

        private boolean stopAt(int fault) {
            found = fault;
            foundPlace = position;
            return false;
        }
    }
}
