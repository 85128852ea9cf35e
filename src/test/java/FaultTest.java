/** Promises 3 (read) and 4 (place): faults, and where they are. */
public final class FaultTest {
    public static void main(String[] args) {
        bytesThatAreNoToken();
        wordsThatAreNoToken();
        stringsThatAreNone();
        dots();
        tokensThatCannotStandThere();
        ends();
        tooManyOpen();
        tooManyNodes();
        tooManyNodesAtBrackets();
        firstFromTheLeft();
        Check.finish();
    }

    private static void bytesThatAreNoToken() {
        String good = "abcdefghijklmnopqrstuvwxyz+*/=<>!?0123456789 \n;";
        for (int b = 0; b < 256; b++) {
            if (good.indexOf(b) >= 0) {
                Check.dueData(" " + (char) b, " \n;".indexOf(b) >= 0 ? 0 : 1);
            } else {
                Check.dueFault(" " + (char) b, b == '(' || b == '\'' ? 2 : 1);
            }
        }
        Check.dueFault("a\tb", 1);
        Check.dueFault("a A", 2);
        Check.dueFault("aB", 1);
        Check.dueFault("(a b, c)", 4);
    }

    private static void wordsThatAreNoToken() {
        Check.dueFault(" 12a", 1);
        Check.dueFault("1-2", 0);
        Check.dueFault("1+", 0);
        Check.dueFault("-", 0);
        Check.dueFault("a -", 2);
        Check.dueFault("--1", 0);
        Check.dueFault("-a", 0);
        Check.dueFault("-1-", 0);
        Check.dueFault("(- . a)", 1);
        Check.dueFault("a 1234567890", 2);
        Check.dueFault("a -1234567890", 2);
        Check.dueFault("a abcdefghijklm", 2);
        Check.dueFault("0000000000", 0);
    }

    private static void stringsThatAreNone() {
        Check.dueFault("a \"", 2);
        Check.dueFault("a \"bc", 2);
        Check.dueFault("a \"bc\\", 2);
        Check.dueFault("a \"bc\\\"", 2);
        Check.dueFault("(\"a\nb\")", 1);
        Check.dueFault("\"a\\n\"", 0);
        Check.dueFault("\"\\ \"", 0);
        Check.dueFault("\"\u001f\"", 0);
        Check.dueFault("\"\u007f\"", 0);
        Check.dueFault("\"\u00e9\"", 0);
        Check.dueFault("\"123456789012345678901\"", 0);
        Check.dueFault("\"12345678901234567890\\\\\"", 0);
        Check.dueFault("\"a\" \"", 4);
    }

    private static void dots() {
        Check.dueFault("a.b", 1);
        Check.dueFault("(a .b)", 3);
        Check.dueFault("(a. b)", 2);
        Check.dueFault("(a .-1)", 3);
        Check.dueFault("(1.\"a\")", 2);
        Check.dueFault("(+.(a))", 2);
        Check.dueFault("((a).b)", 4);
        Check.dueFault(".", 0);
        Check.dueFault("a . b", 2);
        Check.dueFault("(. a)", 1);
        Check.dueFault("(a . . b)", 5);
        Check.dueFault("(a .. b)", 4);
        Check.dueFault("(a . b . c)", 7);
        Check.dueFault("(a . b c)", 7);
        Check.dueFault("(a . b (", 7);
        Check.dueFault("(a . b 'c)", 7);
        Check.dueFault("(a . )", 5);
        Check.dueFault("' . a", 2);
        Check.dueFault("('. a)", 2);
    }

    private static void tokensThatCannotStandThere() {
        Check.dueFault(")", 0);
        Check.dueFault("(a) )", 4);
        Check.dueFault("')", 1);
        Check.dueFault("(a ' )", 5);
        Check.dueFault("() b)c", 4);
        Check.dueFault(")".repeat(400), 0);
        Check.dueFault("()".repeat(199) + "(.", 399);
    }

    private static void ends() {
        Check.dueFault("(", 1);
        Check.dueFault("((a)", 4);
        Check.dueFault("(a .", 4);
        Check.dueFault("(a . b", 6);
        Check.dueFault("'", 1);
        Check.dueFault("a ' \n ", 6);
        Check.dueFault("(a ;)", 5);
        Check.dueFault("(" + " ".repeat(399), 400);
        Check.dueFault("'(a)'", 5);
    }

    private static void tooManyOpen() {
        Check.dueFault("(".repeat(16), 15);
        Check.dueFault("(".repeat(15) + "a()", 16);
        Check.dueFault("(".repeat(15) + "'a", 15);
        Check.dueFault("'".repeat(16) + "a", 15);
        Check.dueFault("'".repeat(15) + "(", 15);
        Check.dueFault("a " + "('".repeat(8) + "b", 17);
        Check.dueFault("(a . ".repeat(15) + "(", 75);
        Check.dueData("(".repeat(14) + "'a 'b ()" + ")".repeat(14), 1);
        Check.dueData("(a . ".repeat(15) + "b" + ")".repeat(15), 1);
        Check.dueFault("(".repeat(14) + "'a ''b", 18);
    }

    /** 'a is five nodes: 40 of them are all that a text may have. */
    private static void tooManyNodes() {
        String all = "'a".repeat(40);
        String less = "'a".repeat(39);
        String lesser = "'a".repeat(38);
        Check.dueData(all, 40);
        Check.dueData(all + " ; no more\n", 40);
        Check.dueFault(all + " b", 81);
        Check.dueFault(all + " 1", 81);
        Check.dueFault(all + "\"\"", 80);
        Check.dueFault(all + "'b", 80);
        Check.dueFault(all + "'", 80);
        Check.dueData(less + " 1 2 3 4 5", 44);
        Check.dueFault(less + " 1 2 3 4 5 6", 89);
        Check.dueFault(less + " 1 'b", 82);
        Check.dueFault(less + " 1 2 'b", 84);
        Check.dueFault(less + " 1 2 3 'b", 85);
        Check.dueFault(less + "''b", 79);
        Check.dueData(lesser + " 1''b", 40);
        Check.dueFault(lesser + " 1 2''b", 82);
    }

    private static void tooManyNodesAtBrackets() {
        String all = "'a".repeat(40);
        String less = "'a".repeat(39);
        Check.dueData(less + "(1 2)", 40);
        Check.dueFault(less + "(1 2 3)", 83);
        Check.dueFault(less + " 1(1 2)", 84);
        Check.dueFault(less + " 1 2(3 4)", 85);
        Check.dueFault(less + " 1 2 3(4 5)", 87);
        Check.dueData(less + " 1 2(3 . 4)", 42);
        Check.dueFault(less + " 1 2 3(4 . 5)", 89);
        Check.dueFault("'a".repeat(38) + " 1 2 3 4'(5 . 6)", 91);
        Check.dueFault(less + " '(b)", 82);
        Check.dueFault(less + " 1 '(b)", 83);
        Check.dueData(less + "'()", 40);
        Check.dueFault(less + " 1'()", 82);
        Check.dueData(less + " 1 2 3 4()", 44);
        // A first pair comes with its bracket, an empty list with its bracket's end.
        Check.dueFault(all + "(b)", 80);
        Check.dueFault(all + "( ;\n)", 84);
        Check.dueFault(less + " 1 2(3(4))", 84);
        Check.dueFault(less + " 1 2(3())", 85);
    }

    private static void firstFromTheLeft() {
        Check.dueFault("(a ) ) A", 5);
        Check.dueFault("a 12x (", 2);
        Check.dueFault("(1 2 A . )", 5);
        Check.dueFault("(".repeat(16) + ") A", 15);
        Check.dueFault("'a".repeat(40) + " b A", 81);
        Check.dueFault("'a".repeat(39) + " A " + "'a".repeat(5), 79);
    }
}
