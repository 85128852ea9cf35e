/** The sentences of "Terms" on data, nodes and faults that name an edge, on both of its sides. */
public final class ReadEdgeTest {
    public static void main(String[] args) {
        oneDatumAtLeastAheadOfADot();
        oneDatumBehindADot();
        oneDatumBehindATick();
        bracketsMatch();
        theEndOnlyWhereATextCanEnd();
        noTokenAtItsFirstByte();
        firstFaultFromTheLeft();
        open15Brackets();
        open15Ticks();
        open15OfBoth();
        openUntilTheDatumEnds();
        node200OfEachDatum();
        node200OfALongList();
        node200AtTheEndOfABracket();
        node200AheadOfAnotherFault();
        Check.finish();
    }

    /** "( datum datum* . datum )". */
    private static void oneDatumAtLeastAheadOfADot() {
        Check.dueFault("(. a)", 1);
        Check.dueFault("( . a)", 2);
        Check.dueFault("(a (. b))", 4);
        Check.dueFault("(a . (. b))", 6);
        Check.dueData("(a . b)", 1);
        Check.dueData("(a a . b)", 1);
        Check.dueData("(() . ())", 1);
        Check.dueData("('a . b)", 1);
        Check.dueFault(". a", 0);
        Check.dueFault("a . b", 2);
        Check.dueFault("(a) . b", 4);
        Check.dueFault("'. a", 1);
        Check.dueFault("(' . a)", 3);
    }

    private static void oneDatumBehindADot() {
        Check.dueFault("(a . )", 5);
        Check.dueFault("(a . . b)", 5);
        Check.dueFault("(a . b c)", 7);
        Check.dueFault("(a . b 1)", 7);
        Check.dueFault("(a . b \"c\")", 7);
        Check.dueFault("(a . b ())", 7);
        Check.dueFault("(a . b 'c)", 7);
        Check.dueFault("(a . b . c)", 7);
        Check.dueFault("(a . b \t)", 7);
        Check.dueFault("(a . 'b c)", 8);
        Check.dueFault("(a . (b) c)", 9);
        Check.dueData("(a . b )", 1);
        Check.dueData("(a . 'b)", 1);
        Check.dueData("(a . ())", 1);
        Check.dueData("((a . b) (c . d) . (e . f))", 1);
    }

    private static void oneDatumBehindATick() {
        Check.dueFault("')", 1);
        Check.dueFault("(a ')", 4);
        Check.dueFault("(a '. b)", 4);
        Check.dueFault("(a . ')", 6);
        Check.dueFault("''", 2);
        Check.dueData("''a", 1);
        Check.dueData("'a b", 2);
        Check.dueData("('a b)", 1);
    }

    private static void bracketsMatch() {
        Check.dueData("", 0);
        Check.dueFault(")", 0);
        Check.dueFault("())", 2);
        Check.dueFault("(a . b))", 7);
        Check.dueFault("'a)", 2);
        Check.dueData("(())", 1);
        Check.dueFault("(()", 3);
    }

    /** "the end, if a text cannot end there": behind all blanks and comments too. */
    private static void theEndOnlyWhereATextCanEnd() {
        for (String start : new String[] {"(", "(a", "(a b", "(a .", "(a . b", "'", "''", "('a", "((a)", "(a . (b)", "a '"}) {
            for (String blank : new String[] {"", " ", "\n", ";", ";c", ";c\n", "  ; )"}) {
                Check.dueFault(start + blank, start.length() + blank.length());
            }
            Check.dueFault(start + " ".repeat(400 - start.length()), 400);
        }
        for (String whole : new String[] {"a", "1", "\"s\"", "()", "(a)", "(a . b)", "'a", "''()", "('a)"}) {
            for (String blank : new String[] {"", " ", "\n", ";", ";c", ";c\n", "  ; ("}) {
                Check.dueData(whole + blank, 1);
            }
        }
    }

    /** "of one that is none, its first byte", wherever a datum, a dot or an end is due. */
    private static void noTokenAtItsFirstByte() {
        String[] none = {"12a", "-", "1234567890", "abcdefghijklm", "\"s", "\"\\n\"", "A", "\\", "#", "\u0000", "\u00ff", ".a"};
        for (String bad : none) {
            for (String ahead : new String[] {"", "a ", "(", "(a ", "(a . ", "(a . b ", "'", "(a '", "((a) ", ";c\n"}) {
                Check.dueFault(ahead + bad, ahead.length());
                Check.dueFault(ahead + bad + " ) (", ahead.length());
            }
        }
    }

    private static void firstFaultFromTheLeft() {
        Check.dueFault(") 12a", 0);
        Check.dueFault("12a )", 0);
        Check.dueFault("(a . b c 12a", 7);
        Check.dueFault("(a . b 12a", 7);
        Check.dueFault("(a A (", 3);
        Check.dueFault("(".repeat(15) + "A(", 15);
        Check.dueFault("(".repeat(16) + "A", 15);
        Check.dueFault("(".repeat(15) + ")".repeat(16) + "(".repeat(16), 30);
    }

    /** "a ( ... beyond 15 that are open at once". */
    private static void open15Brackets() {
        for (int n = 1; n <= 20; n++) {
            dueOpen("(".repeat(n) + ")".repeat(n), n, 15);
            dueOpen("(".repeat(n) + "a" + ")".repeat(n), n, 15);
            dueOpen("(a . ".repeat(n) + "b" + ")".repeat(n), n, 75);
            dueOpen("(a ".repeat(n) + ")".repeat(n), n, 45);
        }
        Check.dueData("(a)".repeat(30), 30);
        Check.dueData("(" + "(a)".repeat(20) + ")", 1);
        Check.dueData("(".repeat(14) + "()".repeat(16) + ")".repeat(14), 1);
        Check.dueFault("(".repeat(14) + "()(()", 17);
    }

    private static void dueOpen(String text, int open, int place) {
        if (open <= 15) {
            Check.dueData(text, 1);
        } else {
            Check.dueFault(text, place);
        }
    }

    private static void open15Ticks() {
        for (int n = 1; n <= 20; n++) {
            dueOpen("'".repeat(n) + "a", n, 15);
            dueOpen("'".repeat(n) + " 1", n, 15);
        }
        Check.dueFault("'".repeat(16), 15);
        Check.dueFault("'".repeat(15), 15);
        Check.dueFault("'".repeat(15) + ")", 15);
        Check.dueData("'a".repeat(20), 20);
    }

    private static void open15OfBoth() {
        for (int brackets = 0; brackets <= 16; brackets++) {
            for (int ticks = 0; brackets + ticks <= 17; ticks++) {
                String close = ")".repeat(brackets);
                dueOpen("'".repeat(ticks) + "(".repeat(brackets) + "a" + close, brackets + ticks, 15);
                dueOpen("(".repeat(brackets) + "'".repeat(ticks) + "a" + close, brackets + ticks, 15);
            }
        }
    }

    /** "a ' until its datum ends". */
    private static void openUntilTheDatumEnds() {
        String open = "(".repeat(13);
        String close = ")".repeat(13);
        Check.dueData(open + "'(a)'(b)" + close, 1);
        Check.dueData(open + "''a''b((c))" + close, 1);
        Check.dueData(open + "'(a . b)(c 'd . 'e)" + close, 1);
        Check.dueFault(open + "'(a 'b", 17);
        Check.dueFault(open + "'(a . 'b", 19);
        Check.dueFault(open + "'(a ()", 17);
        Check.dueFault(open + "'a'''b", 17);
        Check.dueFault(open + "'(a)''(b)", 19);
        Check.dueFault(open + "''()", 15);
    }

    /** A text of so many nodes, in few bytes: 'a is five of them. */
    private static String nodes(int count) {
        return "'a".repeat(count / 5) + " 1".repeat(count % 5);
    }

    /**
     * Puts a datum behind so many nodes that each of its own in turn would be node 200.
     * brought tells at which byte of the datum the token stands that brings each.
     */
    private static void dueNode200(String datum, int... brought) {
        String fits = nodes(200 - brought.length) + " ";
        Check.dueData(fits + datum, Check.deskOf(fits).count(2) + 1);
        Check.due("count(1) of all", Check.deskOf(fits + datum).count(1), 200);
        for (int j = 0; j < brought.length; j++) {
            String ahead = nodes(200 - j) + " ";
            Check.due("count(1) ahead", Check.deskOf(ahead).count(1), 200 - j);
            Check.dueFault(ahead + datum, ahead.length() + brought[j]);
            Check.dueFault(ahead + datum + " A", ahead.length() + brought[j]);
        }
    }

    /** "a token (or bracket's end) that would bring node 200". */
    private static void node200OfEachDatum() {
        dueNode200("1", 0);
        dueNode200("-12", 0);
        dueNode200("abc", 0);
        dueNode200("\"s\"", 0);
        dueNode200("'a", 0, 0, 0, 1, 1);
        dueNode200("' \"s\"", 0, 0, 0, 2, 2);
        dueNode200("''a", 0, 0, 0, 1, 1, 1, 2, 2, 2);
        dueNode200("'()", 0, 0, 0, 2, 2);
        dueNode200("'(a)", 0, 0, 0, 1, 2, 3, 3);
        dueNode200("'(a . b)", 0, 0, 0, 1, 2, 6, 7);
        dueNode200("'(a . b )", 0, 0, 0, 1, 2, 6, 8);
        dueNode200("(a)", 0, 1, 2);
        dueNode200("( a )", 0, 2, 4);
        dueNode200("(a b)", 0, 1, 3, 3, 4);
        dueNode200("(a . b)", 0, 1, 5);
        dueNode200("(a b . c)", 0, 1, 3, 3, 7);
        dueNode200("(a . (b))", 0, 1, 5, 6, 7);
        dueNode200("(a . 'b)", 0, 1, 5, 5, 5, 6, 6);
        dueNode200("(a 'b)", 0, 1, 3, 3, 3, 3, 4, 4, 5);
        dueNode200("((a)(b))", 0, 1, 2, 3, 4, 4, 5, 6, 7);
        dueNode200("('a)", 0, 1, 1, 1, 2, 2, 3);
    }

    /** Of an empty list there is nothing ahead of the bracket's end that would bring it. */
    private static void node200AtTheEndOfABracket() {
        dueNode200("()", 1);
        dueNode200("( )", 2);
        dueNode200("(())", 0, 2, 3);
        dueNode200("(a ())", 0, 1, 3, 4, 5);
        dueNode200("(() . ())", 0, 2, 7);
        dueNode200("(a . ())", 0, 1, 6);
    }

    private static void node200OfALongList() {
        Check.dueData("(" + "1 ".repeat(99) + ")", 1);
        Check.dueData("(" + "1 ".repeat(98) + "1 . 2)", 1);
        Check.dueData("(" + "1 ".repeat(99) + ". 2)", 1);
        Check.dueFault("(" + "1 ".repeat(100) + ")", 201);
        Check.dueFault("(" + "1 ".repeat(100) + ". 2)", 203);
        Check.dueFault("(" + "1 ".repeat(101) + ")", 201);
        Check.dueFault("(" + "1 ".repeat(100) + "A)", 201);
        Check.dueFault("(" + "1 ".repeat(100), 201);
        Check.dueData("1 ".repeat(200), 200);
        Check.dueData("()".repeat(200), 200);
        Check.dueData("(" + "()".repeat(99) + ")", 1);
        Check.dueFault("(" + "()".repeat(100) + ")", 201);
        Check.dueFault("(" + "()".repeat(101) + ")", 201);
    }

    private static void node200AheadOfAnotherFault() {
        Check.dueData(nodes(200) + " ; a\n", 40);
        dueFaultBehind(200, ")", 0);
        dueFaultBehind(200, "A", 0);
        dueFaultBehind(200, "'A", 0);
        dueFaultBehind(198, "'A", 0);
        dueFaultBehind(197, "'A", 1);
        dueFaultBehind(197, "'", 1);
        dueFaultBehind(199, "(A", 1);
        dueFaultBehind(199, "(a A", 1);
        dueFaultBehind(198, "(a A", 3);
        dueFaultBehind(198, "(a", 2);
        dueFaultBehind(197, "(a . b c", 7);
        dueFaultBehind(198, "(a . b c", 5);
    }

    private static void dueFaultBehind(int count, String text, int place) {
        String ahead = nodes(count) + " ";
        Check.dueFault(ahead + text, ahead.length() + place);
    }
}
