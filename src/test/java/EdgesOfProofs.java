/** The sentences on texts and proofs that name an edge: "Terms", ==== 3 and 4, and promises 16 to 19. */
public final class EdgesOfProofs extends Sentences {
    private static final byte[] KEY = mixed(32, 70);
    private static final byte[] OTHER_KEY = mixed(32, 71);

    public static void main(String[] args) {
        clausesAndTests();
        partsOfTests();
        comparisons();
        wrongTexts();
        proofs();
        helpers();
        boundHelpers();
        ends();
        ask();
        truth();
        prove();
        fault();
        end();
    }

    // -- texts

    /** The answer for a text in a register, and for the same text as a limit of a proved token. */
    private static void dueText(String text, int want, int... request) {
        Counted x = new Counted().put(0, KEY).put(1, "name").put(2, text);
        for (int letter = 0; letter < request.length; letter++) {
            x.ask(letter, request[letter]);
        }
        due("truth of '" + text + "'", x.truth(2), want);
        if (text.length() >= 1 && text.length() <= 60) {
            x.make(0, 0, 1);
            x.limit(0, 2);
            due("prove with '" + text + "'", x.prove(0, 0, 0), want == 1 ? 0 : want == 0 ? -12 : -11);
        }
    }

    private static void dueWrong(String... texts) {
        for (String text : texts) {
            dueText(text, NONE);
        }
    }

    private static void clausesAndTests() {
        sentence("Terms, 3", "for a REQUEST (numbers of a .. h, first 0)");
        dueText("a=0&b=0&c=0&d=0&e=0&f=0&g=0&h=0", 1);
        for (char letter = 'a'; letter <= 'h'; letter++) {
            dueText(letter + "=0", 1);
            dueText(letter + ">0", 0);
        }
        dueText("a=1&b=2&c=3&d=4&e=5&f=6&g=7&h=8", 1, 1, 2, 3, 4, 5, 6, 7, 8);

        sentence("Terms, 3", "it is one or more CLAUSES with | between: one of them is true");
        dueText("a=0", 1);
        dueText("a=1", 0);
        dueText("a=0|a=1", 1);
        dueText("a=1|a=0", 1);
        dueText("a=0|b=0", 1);
        dueText("a=1|a=2", 0);
        dueText("a=1|a=2|a=0", 1);
        dueText("a=1|a=0|a=2", 1);
        dueText("a=0|a=1|a=2", 1);
        dueText("a=1|a=2|a=3|a=4|a=5|a=6|a=7|a=8|a=9|b=1|b=2|b=3|b=4|b=5|b=0", 1);
        dueText("a=1|a=2|a=3|a=4|a=5|a=6|a=7|a=8|a=9|b=1|b=2|b=3|b=4|b=5|b=6", 0);
        dueWrong("", "|", "|a=0", "a=0|", "a=0||b=0", "||a=0", "a=0||");

        sentence("Terms, 3", "a clause is one or more TESTS with & between: all are true");
        dueText("a=0&b=0", 1);
        dueText("a=1&b=0", 0);
        dueText("a=0&b=1", 0);
        dueText("a=1&b=1", 0);
        dueText("a=0&b=0&c=1", 0);
        dueText("a=0&b=1&c=0", 0);
        dueText("a=1&b=0&c=0", 0);
        dueText("a=0&b=0&c=0&d=0&e=0&f=0&g=0&h=0&a=0&b=0&c=0&d=0&e=0&f=0&g=0", 1);
        dueText("a=0&b=0&c=0&d=0&e=0&f=0&g=0&h=0&a=0&b=0&c=0&d=0&e=0&f=0&g=1", 0);
        dueText("a=1&b=0|c=0", 1);
        dueText("c=0|a=1&b=0", 1);
        dueText("a=0&b=1|c=1&d=0", 0);
        dueText("a=0&b=1|c=0&d=0", 1);
        dueText("a=0&b=0|c=1&d=0", 1);
        dueText("a=1|b=0&c=1|d=1", 0);
        dueText("a=1|b=0&c=0|d=1", 1);
        dueWrong("&", "&a=0", "a=0&", "a=0&&b=0", "a=0&|b=0", "a=0|&b=0", "a=1&", "a=1&|", "|&");
    }

    private static void partsOfTests() {
        sentence("Terms, 3", "a test is perhaps !");
        dueText("!a=1", 1);
        dueText("!a=0", 0);
        dueText("!a=1&!b=1", 1);
        dueText("!a=1&!b=0", 0);
        dueText("!a=0|!b=1", 1);
        dueText("!a=0|!b=0", 0);
        dueText("!a=0|b=0", 1);
        dueText("a=0&!b=1", 1);
        dueWrong("!", "!!a=1", "!!a=0", "!!!a=0", "a!=0", "a=!0", "a=0!", "!|a=0", "a=0|!", "!&a=0");

        sentence("Terms, 3", "a letter a .. h");
        dueText("a=1", 1, 1);
        dueText("h=8", 1, 0, 0, 0, 0, 0, 0, 0, 8);
        for (int b = 0; b < 256; b++) {
            boolean isLetter = b >= 'a' && b <= 'h';
            dueText((char) b + "=0", isLetter ? 1 : NONE);
            dueText("!" + (char) b + "=1", isLetter ? 1 : NONE);
        }
        dueWrong("=0", "aa=0", "ab=0", "!=0");

        sentence("Terms, 3", "one of < = > #");
        for (int b = 0; b < 256; b++) {
            int want = b == '=' || b == '#' ? 1 : b == '<' || b == '>' ? 0 : NONE;
            dueText("a" + (char) b + "0", want);
        }
        dueWrong("a0", "a==0", "a<=0", "a>=0", "a<>0", "a##0", "a=#0");

        sentence("Terms, 3", "a number of 1 to 6 digits");
        dueText("a=0", 1);
        dueText("a=00", 1);
        dueText("a=000000", 1);
        dueText("a<000001", 1);
        dueText("a=7", 1, 7);
        dueText("a=000007", 1, 7);
        dueText("a=99999", 1, 99999);
        dueText("a=100000", 1, 100000);
        dueText("a=999999", 1, 999999);
        dueText("a=999998", 0, 999999);
        dueText("a=123456", 1, 123456);
        dueText("a=654321&a=654321", 1, 654321);
        dueWrong("a=", "a<", "a>", "a#", "a", "!a=", "a=|b=0", "a=&b=0", "a=0000000", "a=1000000", "a<9999999",
                "a=00000000", "a=0000000|b=0", "b=0|a=0000000", "a=0|b=0000000");
        for (int b = 0; b < 256; b++) {
            boolean isDigit = b >= '0' && b <= '9';
            dueText("a=" + (char) b, !isDigit ? NONE : b == '5' ? 1 : 0, 5);
            dueText("a=1" + (char) b, !isDigit ? NONE : b == '5' ? 1 : 0, 15);
            dueText("a=" + (char) b + "1", !isDigit ? NONE : b == '5' ? 1 : 0, 51);
        }
    }

    private static void comparisons() {
        sentence("Terms, 3", "whether the letter's number is less, equal, greater");
        int[] numbers = {0, 1, 2, 9, 10, 499999, 999998, 999999};
        for (int asked : numbers) {
            for (int number : numbers) {
                dueText("a<" + number, asked < number ? 1 : 0, asked);
                dueText("a=" + number, asked == number ? 1 : 0, asked);
                dueText("a>" + number, asked > number ? 1 : 0, asked);
            }
        }

        sentence("Terms, 3", "or a multiple of it (# 0: is 0)");
        dueText("a#0", 1, 0);
        dueText("a#0", 0, 1);
        dueText("a#0", 0, 999999);
        dueText("a#000000", 1, 0);
        dueText("a#000000", 0, 5);
        dueText("a#1", 1, 0);
        dueText("a#999999", 1, 0);
        dueText("a#1", 1, 999999);
        dueText("a#999999", 1, 999999);
        dueText("a#999999", 0, 999998);
        dueText("a#999998", 0, 999999);
        dueText("a#3", 1, 999999);
        dueText("a#2", 0, 999999);
        dueText("a#6", 1, 6);
        dueText("a#6", 1, 12);
        dueText("a#6", 0, 3);
        dueText("a#6", 0, 7);

        sentence("Terms, 3", "with ! whether it is not so");
        for (int asked : numbers) {
            for (int number : numbers) {
                dueText("!a<" + number, asked < number ? 0 : 1, asked);
                dueText("!a=" + number, asked == number ? 0 : 1, asked);
                dueText("!a>" + number, asked > number ? 0 : 1, asked);
            }
        }
        dueText("!a#0", 0, 0);
        dueText("!a#0", 1, 1);
        dueText("!a#5", 0, 10);
        dueText("!a#5", 1, 11);
    }

    private static void wrongTexts() {
        sentence("Terms, 3", "No blanks");
        String good = "!a=0|b<1&c=0";
        for (int i = 0; i <= good.length(); i++) {
            dueWrong(good.substring(0, i) + " " + good.substring(i));
        }
        dueWrong(" ", "  ", "a=0\t", "\na=0", "a=0\r", "a=\0000", "a\u00a0=0");

        sentence("Terms, 3", "All texts that are otherwise are WRONG");
        dueText(good, 1);
        for (int b = 0; b < 256; b++) {
            boolean isEnd = b >= '0' && b <= '9';
            dueText("a=0" + (char) b, !isEnd ? NONE : b == '0' ? 1 : 0);
            boolean isJoint = b == '&' || b == '|';
            dueText("a=0" + (char) b + "b=0", isJoint ? 1 : NONE);
        }
        // A true clause before, or a false test, does not hide what is wrong behind.
        dueWrong("a=0|x", "a=0|b", "a=0|b=", "a=0|b=0|", "a=0|!", "a=1&x", "a=1&b", "a=1&b=", "a=1&b=0&",
                "x|a=0", "b|a=0", "a=0b=0", "a=0(b=0)", "(a=0)", "a=0,b=0", "a=0;", "a=-1", "a=+1", "a=0x0",
                "a=1.0", "A=0", "a=0\0", "\0", "\u00ff", "0=a", "0", "true");
        for (int end = 0; end < good.length(); end++) {
            dueText(good.substring(0, end), end == 4 ? 0 : end == 8 ? 1 : NONE);
        }
    }

    // -- proofs

    /** Registers 0 and 1 have keys, 2 "root", 3 "bank", 4 "a<5", 5 "b=", 6 "post"; token 0 is made. */
    private static Counted ready() {
        Counted x = new Counted().put(0, KEY).put(1, OTHER_KEY).put(2, "root").put(3, "bank");
        x.put(4, "a<5").put(5, "b=").put(6, "post");
        x.make(0, 0, 2);
        return x;
    }

    /** Token 0 wants a bank, token t is one and bound to it. */
    private static Counted wantsBank(int t) {
        Counted x = ready();
        x.others(0, 1, 3);
        x.make(t, 1, 3);
        x.bind(t, 0);
        return x;
    }

    private static void proofs() {
        sentence("Terms, 4", "1 its text is WRONG");
        Counted x = ready();
        x.limit(0, 5);
        due("prove", x.prove(0, 0, 0), -11);
        dueFault(x, 0, 0, 0);
        x = ready().put(7, "a=1&x");
        x.limit(0, 7);
        due("a text that is not true and WRONG", x.prove(0, 0, 0), -11);

        sentence("Terms, 4", "2 it is not true");
        x = ready();
        x.limit(0, 4);
        due("a is 0", x.prove(0, 0, 0), 0);
        x.ask(0, 4);
        due("a is 4", x.prove(0, 0, 0), 0);
        x.ask(0, 5);
        due("a is 5", x.prove(0, 0, 0), -12);
        dueFault(x, 0, 0, 0);

        sentence("Terms, 4", "each limit in turn");
        for (int bad = 0; bad < 10; bad++) {
            x = ready();
            for (int i = 0; i < 10; i++) {
                x.limit(0, i == bad ? 5 : 4);
            }
            due("limit " + bad + " is WRONG", x.prove(0, 0, 0), -11);
            dueFault(x, 0, bad, 0);
            x.ask(0, 5);
            due("and the others are not true", x.prove(0, 0, 0), bad == 0 ? -11 : -12);
            dueFault(x, 0, 0, 0);
        }

        sentence("Terms, 4", "then s goes on as in 2");
        x = ready();
        for (int i = 0; i < 10; i++) {
            due("proved with " + i, x.prove(0, 0, 0), 0);
            x.limit(0, 4);
        }
        due("proved with 10", x.prove(0, 0, 0), 0);
        x.spoil(0, 10, 2, '5' ^ '6');
        due("the last text is spoilt, and true", x.prove(0, 0, 0), -15);
        dueFault(x, 0, 10, 0);
        x.spoil(0, 10, 2, '5' ^ '6');
        x.spoil(0, 1, 2, '5' ^ '6');
        due("the first text is spoilt, and true", x.prove(0, 0, 0), -15);
    }

    private static void helpers() {
        sentence("Terms, 4", "(tokens, the one that is proved is none of them)");
        Counted x = ready();
        x.others(0, 1, 2);
        due("it wants one of its own name", x.prove(0, 0, 1), -13);
        dueFault(x, 0, 0, 0);
        x.make(7, 1, 2);
        x.bind(7, 0);
        due("another one of that name", x.prove(0, 0, 129), 0);
        dueFault(x, NONE, NONE, 1);

        sentence("Terms, 4", "the helper with the least number of those not WALKED yet");
        for (int least = 1; least < 7; least++) {
            x = ready();
            x.others(0, 1, 3);
            for (int t = least; t < 8; t++) {
                x.make(t, 1, 3);
            }
            int set = 255 & -1 << least;
            due("none is bound", x.prove(0, 0, set), -14);
            dueFault(x, least, 0, 1);
            x.bind(least, 0);
            due("the least is bound", x.prove(0, 0, set), 0);
            x.make(least, 1, 3);
            x.bind(least + 1, 0);
            due("the next one is bound", x.prove(0, 0, set), -14);
            dueFault(x, least, 0, 1);
            due("the least is not in the set", x.prove(0, 0, set & ~(1 << least)), 0);
        }
        x = ready();
        for (int i = 0; i < 8; i++) {
            x.others(0, 1, 3);
        }
        for (int t = 1; t < 8; t++) {
            x.make(t, 1, 3);
            x.bind(t, 0);
        }
        due("an eighth is wanted, seven can be", x.prove(0, 0, 254), -13);
        dueFault(x, 0, 7, 7);

        sentence("Terms, 4", "that has the text as name");
        for (String name : new String[] {"ban", "banks", "bani", "cank", "Bank", "b", "bank\0", "\0bank"}) {
            x = ready().put(7, name);
            x.others(0, 1, 3);
            x.make(3, 1, 7);
            x.bind(3, 0);
            due("a helper with another name", x.prove(0, 0, 8), -13);
            dueFault(x, 0, 0, 0);
        }
        for (int n : new int[] {1, 60}) {
            x = ready().put(7, mixed(n, n));
            x.others(0, 1, 7);
            x.make(3, 1, 7);
            x.bind(3, 0);
            due("a name of " + n, x.prove(0, 0, 8), 0);
            x.spoil(0, 1, n - 1, 1);
            due("its last byte is another", x.prove(0, 0, 8), -13);
        }

        sentence("Terms, 4", "3 there is none");
        due("no helper", wantsBank(1).prove(0, 0, 0), -13);
        x = wantsBank(1);
        x.make(2, 1, 6);
        due("the bank is not in the set", x.prove(0, 0, 4), -13);
        dueFault(x, 0, 0, 0);
        due("it is", x.prove(0, 0, 6), 0);
        x = wantsBank(1);
        x.others(0, 1, 6);
        x.make(1, 1, 3);
        x.bind(1, 0);
        due("a second one is wanted, of another name", x.prove(0, 0, 2), -13);
        dueFault(x, 0, 1, 1);
    }

    private static void boundHelpers() {
        sentence("Terms, 4", "it is walked with the key that is the lock ^ SEAL(s, text)");
        due("the helper has that key", wantsBank(1).prove(0, 0, 2), 0);
        Counted x = ready();
        x.others(0, 1, 3);
        x.make(1, 0, 3);
        x.bind(1, 0);
        due("the helper has another key", x.prove(0, 0, 2), -14);
        dueFault(x, 1, 0, 1);
        x = ready();
        x.limit(0, 4);
        x.others(0, 1, 3);
        x.others(0, 0, 6);
        x.make(5, 1, 3);
        x.make(6, 0, 6);
        x.bind(5, 0);
        x.bind(6, 0);
        due("each one its own key", x.prove(0, 0, 96), 0);
        dueFault(x, NONE, NONE, 2);

        sentence("Terms, 4", "bound to the token that is proved (by the sign that that one has): 4 it is not so");
        x = wantsBank(1);
        x.make(1, 1, 3);
        due("it is not bound", x.prove(0, 0, 2), -14);
        dueFault(x, 1, 0, 1);
        x.bind(1, 0);
        x.bind(1, 0);
        due("it is bound twice", x.prove(0, 0, 2), -14);
        x = wantsBank(1);
        x.make(1, 1, 3);
        x.make(2, 0, 2);
        x.bind(1, 2);
        due("it is bound to another", x.prove(0, 0, 2), -14);
        for (int i = 0; i < 32; i++) {
            x = wantsBank(1);
            x.spoil(1, 0, i, 1);
            due("byte " + i + " of the helper's sign is spoilt", x.prove(0, 0, 2), -14);
            x = wantsBank(1);
            x.spoil(0, 0, i, 128);
            due("byte " + i + " of the proved one's sign is spoilt", x.prove(0, 0, 2), -14);
            dueFault(x, 1, 0, 1);
        }
        x = wantsBank(1);
        x.spoil(0, 0, 0, 1);
        x.make(1, 1, 3);
        x.bind(1, 0);
        due("bound by the spoilt sign: then the sign itself is the fault", x.prove(0, 0, 2), -15);
        dueFault(x, 0, 1, 1);
        x = wantsBank(1);
        x.make(1, 1, 3);
        x.others(1, 0, 6);
        x.make(2, 0, 6);
        x.bind(2, 1);
        x.bind(1, 0);
        due("the helper's helper is bound to the helper", x.prove(0, 0, 6), -14);
        dueFault(x, 2, 0, 2);
        x.make(2, 0, 6);
        x.bind(2, 0);
        due("it is bound to the one that is proved", x.prove(0, 0, 6), 0);
        dueFault(x, NONE, NONE, 2);
    }

    private static void ends() {
        sentence("Terms, 4", "Behind the walk of the token that is proved: 5 s is not its sign");
        Counted x = ready();
        due("another key", x.prove(0, 1, 0), -15);
        dueFault(x, 0, 0, 0);
        for (int i = 0; i < 32; i++) {
            x = ready();
            x.spoil(0, 0, i, 1);
            due("byte " + i + " of its sign is spoilt", x.prove(0, 0, 0), -15);
        }
        x = ready();
        x.bind(0, 0);
        due("it is bound", x.prove(0, 0, 0), -15);
        x = ready();
        x.limit(0, 4);
        x.ask(0, 9);
        due("another key, and a limit that is not true", x.prove(0, 1, 0), -12);
        x = ready();
        x.others(0, 1, 3);
        due("another key, and no helper", x.prove(0, 1, 0), -13);

        sentence("Terms, 4", "then s goes on. Behind the walk of the token that is proved");
        for (int before = 0; before <= 3; before++) {
            for (int behind = 0; behind <= 3; behind++) {
                x = ready();
                for (int i = 0; i < before; i++) {
                    x.limit(0, 4);
                }
                x.others(0, 1, 3);
                for (int i = 0; i < behind; i++) {
                    x.limit(0, 4);
                }
                x.make(1, 1, 3);
                x.bind(1, 0);
                due("one of others among own ones", x.prove(0, 0, 2), 0);
                dueFault(x, NONE, NONE, 1);
                x.limit(0, 4);
                due("one more own one: the helper is not bound to that sign", x.prove(0, 0, 2), -14);
                dueFault(x, 1, before, 1);
            }
        }

        sentence("Terms, 4", "The first one found ends it all: it is THE FAULT");
        x = wantsBank(1);
        x.limit(0, 5);
        x.make(1, 1, 3);
        x.limit(1, 4);
        x.bind(1, 0);
        x.ask(0, 5);
        due("a limit of the helper is not true", x.prove(0, 0, 2), -12);
        dueFault(x, 1, 0, 1);
        x.ask(0, 0);
        due("then the limit behind it", x.prove(0, 0, 2), -11);
        dueFault(x, 0, 1, 1);
        x.spoil(1, 0, 0, 1);
        x.ask(0, 5);
        due("within the helper's walk, before its sign", x.prove(0, 0, 2), -12);
        dueFault(x, 1, 0, 1);
        x.ask(0, 0);
        due("the helper's sign, before the limit behind", x.prove(0, 0, 2), -14);
        dueFault(x, 1, 0, 1);

        sentence("Terms, 4", "(A helper counts as walked from when its walk begins.)");
        x = wantsBank(1);
        x.make(1, 1, 3);
        x.others(1, 0, 3);
        x.bind(1, 0);
        due("a bank wants a bank: it is not its own", x.prove(0, 0, 2), -13);
        dueFault(x, 1, 0, 1);
        x.make(2, 0, 3);
        x.bind(2, 0);
        due("a second bank", x.prove(0, 0, 6), 0);
        dueFault(x, NONE, NONE, 2);
        x.make(2, 0, 3);
        x.others(2, 1, 3);
        x.bind(2, 0);
        due("both want one", x.prove(0, 0, 6), -13);
        dueFault(x, 2, 0, 2);
    }

    // -- the promises

    private static void ask() {
        sentence("16 ask", "The request's number of a letter (0: a, .. 7: h) becomes v: what it was");
        for (int letter = 0; letter < 8; letter++) {
            Counted x = new Counted().put(0, (char) ('a' + letter) + "=999999");
            due("first", x.ask(letter, 5), 0);
            due("then", x.ask(letter, 0), 5);
            due("then", x.ask(letter, 999999), 0);
            due("that letter", x.truth(0), 1);
            due("then", x.ask(letter, 999999), 999999);
            for (int other = 0; other < 8; other++) {
                due("letter " + other, x.ask(other, 0), other == letter ? 999999 : 0);
            }
        }

        sentence("16 ask", "BAD: no such letter, v is not 0 .. 999999 (here -2)");
        for (int letter : NOT_0_TO_7) {
            due("letter " + letter, new Counted().ask(letter, 0), -2);
        }
        for (int v : new int[] {-1, -2, 1000000, 1000001, LEAST, MOST}) {
            Counted x = new Counted();
            x.ask(7, 12);
            due("number " + v, x.ask(7, v), -2);
            due("it is as before", x.ask(7, 0), 12);
        }
        for (int v : new int[] {0, 1, 999998, 999999}) {
            Counted x = new Counted();
            due("number " + v, x.ask(0, v), 0);
            due("it was", x.ask(0, 0), v);
        }
    }

    private static void truth() {
        sentence("17 truth", "Whether a register's bytes are a TEXT that is TRUE (1), or not (0);"
                + " NONE: it is WRONG");
        for (int r = 0; r < 8; r++) {
            due("no bytes", new Counted().truth(r), NONE);
            due("a true text", new Counted().put(r, "a=0").truth(r), 1);
            due("one that is not", new Counted().put(r, "a=1").truth(r), 0);
            due("a wrong one", new Counted().put(r, "a=").truth(r), NONE);
        }
        Counted x = new Counted().put(0, "a=0");
        x.clear(0);
        due("a text that was there", x.truth(0), NONE);
        x = new Counted().put(0, "a=01");
        x.put(0, "a=0");
        due("a byte that was behind it", x.truth(0), 1);
        due("the register stays", x.register(0), bytes("a=0"));
        // The document bounds a limit's text, not a text as such: a full register can be one.
        for (int n : new int[] {59, 60, 61, 99, 100}) {
            String text = longText(n);
            dueText(text, 1);
            dueText(text, 0, 0, 1);
            dueText(text.substring(0, n - 1) + "|", NONE);
        }

        sentence("17 truth", "BAD");
        for (int r : NOT_0_TO_7) {
            due("truth of " + r, new Counted().truth(r), BAD);
        }
    }

    /** A text of n bytes that is true while b is 0. */
    private static String longText(int n) {
        StringBuilder text = new StringBuilder("b=0");
        while (text.length() + 4 <= n - 4) {
            text.append("&b=0");
        }
        text.append("&b=");
        while (text.length() < n) {
            text.append('0');
        }
        return text.toString();
    }

    private static void prove() {
        sentence("18 prove", "with a register as key");
        for (int n : new int[] {0, 1, 64, 65, 100}) {
            Counted x = ready().put(7, mixed(n, 3));
            x.make(3, 7, 2);
            due("a key of " + n, x.prove(3, 7, 0), 0);
            x.put(7, mixed(n, 3)).add(7, 1, 5);
            due("a key with a byte more", x.prove(3, 7, 0), n == 100 ? 0 : -15);
        }

        sentence("18 prove", "the tokens of a set (2 to the power of each, together), but for itself: 0");
        for (int proved = 0; proved < 8; proved++) {
            for (int t = 0; t < 8; t++) {
                if (t != proved) {
                    Counted x = ready();
                    x.make(proved, 0, 2);
                    x.others(proved, 1, 3);
                    x.make(t, 1, 3);
                    x.bind(t, proved);
                    due("helper " + t + " of " + proved, x.prove(proved, 0, 1 << t), 0);
                    due("and itself", x.prove(proved, 0, 1 << t | 1 << proved), 0);
                    dueFault(x, NONE, NONE, 1);
                    due("no helper", x.prove(proved, 0, 0), -13);
                    due("itself alone", x.prove(proved, 0, 1 << proved), -13);
                    dueFault(x, proved, 0, 0);
                }
            }
        }

        sentence("18 prove", "less than 0: -10 less THE FAULT");
        Counted x = ready();
        x.limit(0, 5);
        due("fault 1", x.prove(0, 0, 0), -11);
        x = ready().put(7, "a=1");
        x.limit(0, 7);
        due("fault 2", x.prove(0, 0, 0), -12);
        due("fault 3", wantsBank(1).prove(0, 0, 0), -13);
        x = wantsBank(1);
        x.bind(1, 0);
        due("fault 4", x.prove(0, 0, 2), -14);
        due("fault 5", ready().prove(0, 1, 0), -15);

        sentence("18 prove", "BAD: also if the set is not 0 .. 255");
        for (int set : new int[] {-1, 256, 257, 512, -256, LEAST, MOST}) {
            x = full();
            due("set " + set, x.prove(0, 0, set), BAD);
            dueFault(x, NONE, NONE, NONE);
        }
        due("set 255", full().prove(0, 0, 255), 0);
        due("set 0", full().prove(0, 0, 0), 0);

        sentence("18 prove", "or one of its tokens is not there");
        for (int t = 1; t < 8; t++) {
            x = full();
            x.drop(t);
            due("token " + t + " alone", x.prove(0, 0, 1 << t), BAD);
            due("with all others", x.prove(0, 0, 255), BAD);
            due("all but it", x.prove(0, 0, 255 & ~(1 << t)), 0);
        }

        sentence("18 prove", "(itself may be named)");
        for (int t = 0; t < 8; t++) {
            x = full();
            due("itself", x.prove(t, 0, 1 << t), 0);
            due("with all others", x.prove(t, 0, 255), 0);
            due("without it", x.prove(t, 0, 255 & ~(1 << t)), 0);
            x.drop(t);
            due("it is not there, and named", x.prove(t, 0, 1 << t), BAD);
            due("it is not there", x.prove(t, 0, 0), BAD);
        }
        for (int n : NOT_0_TO_7) {
            due("token " + n, full().prove(n, 0, 0), BAD);
            due("key " + n, full().prove(0, n, 0), BAD);
        }
    }

    /** All eight tokens are there, made with register 0. */
    private static Counted full() {
        Counted x = ready();
        for (int t = 1; t < 8; t++) {
            x.make(t, 0, 2);
        }
        return x;
    }

    private static void fault() {
        sentence("19 fault", "Of the latest prove() that was not BAD");
        Counted x = ready();
        x.limit(0, 4);
        x.limit(0, 5);
        x.prove(0, 0, 0);
        dueFault(x, 0, 1, 0);
        due("a BAD one: no token", x.prove(8, 0, 0), BAD);
        dueFault(x, 0, 1, 0);
        due("a BAD one: not there", x.prove(1, 0, 0), BAD);
        dueFault(x, 0, 1, 0);
        due("a BAD one: no key", x.prove(0, 8, 0), BAD);
        dueFault(x, 0, 1, 0);
        due("a BAD one: no set", x.prove(0, 0, 256), BAD);
        dueFault(x, 0, 1, 0);
        due("a BAD one: a helper that is not there", x.prove(0, 0, 2), BAD);
        dueFault(x, 0, 1, 0);
        x.drop(0);
        dueFault(x, 0, 1, 0);
        x.make(3, 0, 2);
        due("a later one", x.prove(3, 1, 0), -15);
        dueFault(x, 3, 0, 0);

        sentence("19 fault", "the token in whose walk THE FAULT was found (5: the one that was proved;"
                + " 4: the helper)");
        for (int t = 1; t < 8; t++) {
            x = wantsBank(t);
            x.bind(t, 0);
            due("fault 4", x.prove(0, 0, 1 << t), -14);
            due("the helper", x.fault(0), t);
            x = wantsBank(t);
            x.make(t, 1, 3);
            x.limit(t, 5);
            x.bind(t, 0);
            due("fault 1 of the helper", x.prove(0, 0, 1 << t), -11);
            due("the helper", x.fault(0), t);
            x = wantsBank(t);
            x.make(t, 1, 3);
            x.others(t, 1, 6);
            x.bind(t, 0);
            due("fault 3 of the helper", x.prove(0, 0, 1 << t), -13);
            due("the helper", x.fault(0), t);
            x = ready();
            x.make(t, 1, 2);
            due("fault 5", x.prove(t, 0, 0), -15);
            due("the one that was proved", x.fault(0), t);
            x = wantsBank(t);
            x.limit(0, 4);
            x.make(t, 1, 3);
            x.bind(t, 0);
            x.spoil(0, 2, 2, '5' ^ '6');
            due("fault 5 behind a helper's walk", x.prove(0, 0, 1 << t), -15);
            due("the one that was proved", x.fault(0), 0);
        }

        sentence("19 fault", "1 the limit's number (from 0; of 4 that of the limit that wanted the helper,"
                + " of 5 how many it has)");
        for (int before = 0; before <= 9; before++) {
            x = ready();
            for (int i = 0; i < before; i++) {
                x.limit(0, 4);
            }
            due("fault 5", x.prove(0, 1, 0), -15);
            due("how many it has", x.fault(1), before);
            x.others(0, 1, 3);
            due("fault 3", x.prove(0, 0, 0), -13);
            due("the limit", x.fault(1), before);
            x.make(1, 1, 3);
            x.limit(1, 4);
            x.limit(1, 4);
            due("fault 4", x.prove(0, 0, 2), -14);
            due("the limit that wanted it", x.fault(1), before);
        }
        x = ready();
        for (int i = 0; i < 10; i++) {
            x.limit(0, 4);
        }
        due("fault 5 of a full one", x.prove(0, 1, 0), -15);
        due("how many it has", x.fault(1), 10);
        x = wantsBank(1);
        x.make(1, 1, 3);
        x.limit(1, 4);
        x.limit(1, 4);
        x.others(1, 0, 6);
        x.bind(1, 0);
        x.make(2, 0, 6);
        due("fault 4 of the helper's helper", x.prove(0, 0, 6), -14);
        dueFault(x, 2, 2, 2);

        sentence("19 fault", "2 how many helpers had begun to be walked");
        for (int wanted = 0; wanted <= 7; wanted++) {
            x = ready();
            for (int i = 0; i < wanted; i++) {
                x.others(0, 1, 3);
            }
            x.limit(0, 4);
            for (int t = 1; t < 8; t++) {
                x.make(t, 1, 3);
                x.bind(t, 0);
            }
            due("prove", x.prove(0, 0, 255), 0);
            dueFault(x, NONE, NONE, wanted);
            x.ask(0, 5);
            due("a fault behind them", x.prove(0, 0, 255), -12);
            dueFault(x, 0, wanted, wanted);
            if (wanted > 0) {
                x.spoil(wanted, 0, 0, 1);
                due("the last one is at fault: it had begun, too", x.prove(0, 0, 255), -14);
                dueFault(x, wanted, wanted - 1, wanted);
            }
        }

        sentence("19 fault", "NONE without a fault for 0, 1");
        x = wantsBank(1);
        x.prove(0, 0, 0);
        dueFault(x, 0, 0, 0);
        due("prove", x.prove(0, 0, 2), 0);
        dueFault(x, NONE, NONE, 1);

        sentence("19 fault", "all NONE before any");
        dueFault(new Counted(), NONE, NONE, NONE);
        x = ready();
        x.prove(0, 0, 256);
        dueFault(x, NONE, NONE, NONE);

        sentence("19 fault", "BAD");
        for (int what : new int[] {-1, 3, 4, LEAST, MOST}) {
            due("fault(" + what + ") before any", new Counted().fault(what), BAD);
            due("fault(" + what + ") behind one", x.fault(what), BAD);
        }
    }
}
