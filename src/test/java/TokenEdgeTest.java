/** The sentences of "Terms" on texts, blanks, comments and tokens that name an edge, on both of its sides. */
public final class TokenEdgeTest {
    private static final String FIRST_OF_NAME = "abcdefghijklmnopqrstuvwxyz+*/=<>!?";
    private static final String DIGITS = "0123456789";
    private static final String WORD = FIRST_OF_NAME + DIGITS + "-";

    public static void main(String[] args) {
        upTo400Bytes();
        blanksAre10And32();
        commentsGoUpTo10OrTheEnd();
        commentsStandBetweenTokens();
        numbersHave1To9Digits();
        minusStandsAheadOfDigits();
        namesHaveUpTo12Bytes();
        namesByTheirFirstByte();
        namesByTheirOtherBytes();
        stringsHaveUpTo20Bytes();
        stringsHaveBytes32To126();
        backslashStandsAheadOfTwoBytes();
        nothingOfAWordBehindANumber();
        nothingOfAWordAroundADot();
        nothingIsAskedOfOtherTokens();
        Check.finish();
    }

    private static boolean isIn(String bytes, int b) {
        return bytes.indexOf(b) >= 0;
    }

    /** A text of one datum that is a number, a name or a string: its kind and value. */
    private static DatumDesk dueAtom(String text, int kind, int value) {
        Check.dueData(text, 1);
        DatumDesk desk = Check.deskOf(text);
        Check.due("kind(0) of <" + text + ">", desk.kind(0), kind);
        Check.due("value(0) of <" + text + ">", desk.value(0), value);
        return desk;
    }

    /** "A TEXT are up to 400 bytes": a token may be or end at the last of them. */
    private static void upTo400Bytes() {
        String[] last = {"a", "12", "\"b\"", "()", "'c", "(d . e)"};
        for (String token : last) {
            String text = " ".repeat(400 - token.length()) + token;
            Check.dueData(text, 1);
            DatumDesk desk = new DatumDesk();
            Check.put(desk, text);
            Check.due("put of byte 401 behind " + token, desk.put('x', 1), false);
            Check.due("read()", desk.read(), 1);
        }
        Check.dueData(" ".repeat(400), 0);
        Check.dueData(";".repeat(400), 0);
        Check.dueData("a" + " ".repeat(399), 1);
        Check.dueFault(" ".repeat(399) + ")", 399);
        Check.dueFault(" ".repeat(399) + "-", 399);
        Check.dueFault(" ".repeat(399) + "\"", 399);
        Check.dueFault(" ".repeat(399) + "\u00ff", 399);
        Check.dueFault(" ".repeat(399) + "(", 400);
        Check.dueFault(" ".repeat(399) + "'", 400);
    }

    /** "BLANKS are 10 and 32": of all bytes between two lists only these leave just them. */
    private static void blanksAre10And32() {
        for (int b = 0; b < 256; b++) {
            String text = "()" + (char) b + "()";
            if (b == 10 || b == 32) {
                Check.dueData(text, 2);
            } else if (b == ';') {
                Check.dueData(text, 1);
            } else if (b == '\'') {
                Check.dueData(text, 2);
                Check.due("kind of a quoted list", Check.deskOf(text).kind(1), 4);
            } else if (isIn(FIRST_OF_NAME + DIGITS, b)) {
                Check.dueData(text, 3);
            } else {
                Check.dueFault(text, b == '(' ? 5 : 2);
            }
        }
    }

    /** "a COMMENT goes from ; up to 10 or the end": no other byte ends it, no ; in it matters. */
    private static void commentsGoUpTo10OrTheEnd() {
        for (int b = 0; b < 256; b++) {
            Check.dueData(";" + (char) b + "a", b == 10 ? 1 : 0);
            Check.dueData("b;" + (char) b + "\na", 2);
        }
        Check.dueData(";", 0);
        Check.dueData(";\n", 0);
        Check.dueData(";\na", 1);
        Check.dueData(";a\n;b\n;c", 0);
        Check.dueData(";a;b\nc;d;e\nf", 2);
        Check.dueFault(";\n)", 2);
        Check.dueFault("(;)", 3);
        Check.dueFault("(;)\n", 4);
    }

    /** "both may stand between tokens", and nowhere inside of one. */
    private static void commentsStandBetweenTokens() {
        for (String between : new String[] {" ", "\n", " \n ", ";c\n", " ;c\n ;d\n"}) {
            String text = String.join(between, "", "(", "a", "1", "\"s\"", "'", "(", ")", ".", "b", ")", "c", "");
            DatumDesk desk = Check.deskOf(text);
            Check.due("data of <" + text + ">", desk.count(2), 2);
            Check.due("<" + text + ">", Check.written(desk, 0), "(a 1 \"s\" '() . b)");
        }
        Check.due("a string with ;", Check.bytesOf(Check.deskOf("\"a;b\""), 0), "a;b");
        Check.dueData("1 2", 2);
        Check.dueData("a;\nb", 2);
        Check.dueFault("- 1", 0);
        Check.dueFault("-;\n1", 0);
        Check.dueFault("\"a;\nb\"", 0);
    }

    /** "NUMBERS: perhaps -, then 1 .. 9 digits". */
    private static void numbersHave1To9Digits() {
        for (int n = 1; n <= 9; n++) {
            dueAtom("9".repeat(n), 1, Integer.parseInt("9".repeat(n)));
            dueAtom("-" + "9".repeat(n), 1, -Integer.parseInt("9".repeat(n)));
            dueAtom("0".repeat(n), 1, 0);
            dueAtom("-" + "0".repeat(n - 1) + "1", 1, -1);
        }
        for (int n = 10; n <= 22; n++) {
            Check.dueFault("a " + "9".repeat(n), 2);
            Check.dueFault("a -" + "9".repeat(n), 2);
            Check.dueFault("a " + "0".repeat(n), 2);
        }
        Check.dueFault("9".repeat(400), 0);
        Check.dueFault("a -", 2);
        Check.dueFault("(-)", 1);
        Check.dueFault("'-", 1);
    }

    /** A - is of a number only if a digit is next, and + is of a name. */
    private static void minusStandsAheadOfDigits() {
        for (int b = 0; b < 256; b++) {
            if (isIn(DIGITS, b)) {
                dueAtom("-" + (char) b, 1, '0' - b);
            } else {
                Check.dueFault(" -" + (char) b, 1);
            }
        }
        dueAtom("+1", 2, 2);
        dueAtom("+-1", 2, 3);
    }

    /** "NAMES: [a first byte], then up to 11 of these, digits and -". */
    private static void namesHaveUpTo12Bytes() {
        for (int n = 1; n <= 12; n++) {
            dueAtom("a".repeat(n), 2, n);
            dueAtom("?" + "-".repeat(n - 1), 2, n);
            dueAtom("z" + "0".repeat(n - 1), 2, n);
        }
        for (int n = 13; n <= 26; n++) {
            Check.dueFault("1 " + "a".repeat(n), 2);
            Check.dueFault("1 ?" + "-".repeat(n - 1), 2);
            Check.dueFault("1 z" + "0".repeat(n - 1), 2);
        }
        Check.dueFault("a".repeat(400), 0);
    }

    private static void namesByTheirFirstByte() {
        for (int b = 0; b < 256; b++) {
            String text = (char) b + "a";
            if (isIn(FIRST_OF_NAME, b)) {
                Check.due("a name", Check.bytesOf(dueAtom(text, 2, 2), 0), text);
            } else if (b == 10 || b == 32) {
                dueAtom(text, 2, 1);
            } else if (b == ';') {
                Check.dueData(text, 0);
            } else if (b == '\'') {
                Check.dueData(text, 1);
            } else {
                Check.dueFault(text, b == '(' ? 2 : 0);
            }
        }
    }

    private static void namesByTheirOtherBytes() {
        for (int b = 0; b < 256; b++) {
            String text = "a" + (char) b;
            if (isIn(WORD, b)) {
                Check.due("a name", Check.bytesOf(dueAtom(text, 2, 2), 0), text);
            } else if (b == 10 || b == 32 || b == ';') {
                dueAtom(text, 2, 1);
            } else {
                Check.dueFault(text, b == '(' || b == '\'' ? 2 : 1);
            }
        }
        for (int i = 0; i < WORD.length(); i++) {
            dueAtom("abcdefghijk" + WORD.charAt(i), 2, 12);
            Check.dueFault("1 abcdefghijkl" + WORD.charAt(i), 2);
        }
    }

    /** "up to 20 bytes": those that the string stands for, so a \ ahead of one is not counted. */
    private static void stringsHaveUpTo20Bytes() {
        for (String one : new String[] {"s", "\\\"", "\\\\"}) {
            for (int n = 0; n <= 20; n++) {
                dueAtom("\"" + one.repeat(n) + "\"", 3, n);
            }
            for (int n = 21; n <= 42; n++) {
                Check.dueFault("a \"" + one.repeat(n) + "\"", 2);
            }
        }
        dueAtom("\"1234567890123456789\\\"\"", 3, 20);
        Check.dueFault("a \"12345678901234567890\\\"\"", 2);
        Check.dueFault("a \"12345678901234567890", 2);
        Check.dueFault("a \"" + "s".repeat(397), 2);
    }

    /** "bytes 32 .. 126". */
    private static void stringsHaveBytes32To126() {
        for (int b = 0; b < 256; b++) {
            String text = "\"" + (char) b + "\"";
            if (b >= 32 && b <= 126 && b != '"' && b != '\\') {
                Check.due("byteAt(0, 0)", dueAtom(text, 3, 1).byteAt(0, 0), b);
            } else {
                Check.dueFault("a " + text, b == '"' ? 4 : 2);
            }
        }
    }

    /** "\ stands ahead of " and \ (and of nothing else)". */
    private static void backslashStandsAheadOfTwoBytes() {
        for (int b = 0; b < 256; b++) {
            String text = "\"\\" + (char) b + "\"";
            if (b == '"' || b == '\\') {
                Check.due("byteAt(0, 0)", dueAtom(text, 3, 1).byteAt(0, 0), b);
            } else {
                Check.dueFault("a " + text, 2);
            }
        }
        Check.due("four of them", Check.bytesOf(dueAtom("\"\\\\\\\"\"", 3, 2), 0), "\\\"");
        Check.dueFault("a \"\\\\\\\"", 2);
        Check.dueFault("a \"b\\", 2);
        Check.dueFault("a \\", 2);
        Check.dueFault("a \\\"b\"", 2);
    }

    /** "A number or name has no byte of a number or name behind it". */
    private static void nothingOfAWordBehindANumber() {
        for (int b = 0; b < 256; b++) {
            String text = " 1" + (char) b;
            if (isIn(DIGITS, b)) {
                dueAtom(text, 1, 10 + b - '0');
            } else if (isIn(WORD, b)) {
                Check.dueFault(text, 1);
                Check.dueFault(" 123456789" + (char) b, 1);
            } else if (b == 10 || b == 32 || b == ';') {
                dueAtom(text, 1, 1);
            } else {
                Check.dueFault(text, b == '(' || b == '\'' ? 3 : 2);
            }
        }
    }

    /** "a . has none of these behind it, nor ahead". */
    private static void nothingOfAWordAroundADot() {
        for (int i = 0; i < WORD.length(); i++) {
            char b = WORD.charAt(i);
            Check.dueFault("(\"s\" ." + b + ")", 5);
            Check.dueFault("(\"s\" ." + b + "1)", 5);
            // A lone - is a fault by itself, further left than the dot.
            Check.dueFault("(\"s\" " + b + ". c)", b == '-' ? 5 : 6);
            Check.dueFault("(\"s\" a" + b + ". c)", 7);
        }
        for (String behind : new String[] {" a", "\na", "\"a\"", "(a)", "()", "'a", ";c\na"}) {
            Check.dueData("(b ." + behind + ")", 1);
        }
        for (String ahead : new String[] {"a ", "a\n", "\"a\"", "(a)", "()", "'a ", "a;c\n"}) {
            Check.dueData("(" + ahead + ". b)", 1);
        }
        Check.dueFault("(a ..b)", 4);
        Check.dueFault("(a .)", 4);
        Check.dueFault("(\"a\".", 5);
    }

    /** Strings, brackets and ' may have any token at their sides. */
    private static void nothingIsAskedOfOtherTokens() {
        String[] ahead = {"a", "1", "\"s\"", "()", "'a"};
        String[] behind = {"\"t\"", "()", "'b", "(c)"};
        for (String one : ahead) {
            for (String other : behind) {
                Check.dueData(one + other, 2);
                Check.dueData("(" + one + other + ")", 1);
            }
        }
        Check.dueData("\"s\"a", 2);
        Check.dueData("\"s\"1", 2);
        Check.dueData("\"s\"-1", 2);
        Check.dueData("()a()-1()", 5);
        Check.dueData("'-1", 1);
    }
}
