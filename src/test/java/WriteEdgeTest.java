/** The sentences on writing and fetching that name an edge, each on both of its sides. */
public final class WriteEdgeTest {
    public static void main(String[] args) {
        numbersWithoutZerosAhead();
        stringsWithTheirBackslashes();
        tailsThatAreNoList();
        listsOfQuoteAndOneDatum();
        writtenIsReadAgain();
        deepest();
        writeOfNodesThatAre();
        atMost500Wait();
        whatIsBeyondIsLeftOut();
        onlyTheEndOfAFullRowIsLeftOut();
        fetchAtMost7();
        fetchOfNone();
        fetchAgainAfterMany();
        fetchKeepsBytesWhole();
        Check.finish();
    }

    private static void due(String text, String want) {
        DatumDesk desk = Check.deskOf(text);
        Check.due("write of <" + text + ">", Check.written(desk, desk.datum(0)), want);
    }

    /** "numbers in digits (with -, without zeros ahead; -0 is 0)". */
    private static void numbersWithoutZerosAhead() {
        for (int digits = 1; digits <= 9; digits++) {
            String zeros = "0".repeat(9 - digits);
            String least = "1" + "0".repeat(digits - 1);
            String most = "9".repeat(digits);
            for (String number : new String[] {least, most}) {
                due(number, number);
                due("-" + number, "-" + number);
                due(zeros + number, number);
                due("-" + zeros + number, "-" + number);
            }
            due("0".repeat(digits), "0");
            due("-" + "0".repeat(digits), "0");
        }
        due("(-0 0 -1 . -00)", "(0 0 -1 . 0)");
        due("'-0", "'0");
    }

    /** "strings in " " with \ ahead of " and \". */
    private static void stringsWithTheirBackslashes() {
        for (int b = 32; b <= 126; b++) {
            String body = b == '"' || b == '\\' ? "\\" + (char) b : Character.toString((char) b);
            due("\"" + body + "\"", "\"" + body + "\"");
        }
        due("\"\"", "\"\"");
        String longest = "\"" + "\\\\\\\"".repeat(10) + "\"";
        due(longest, longest);
    }

    /** "a tail that is no list behind ' . '", and one that is a list in the same brackets. */
    private static void tailsThatAreNoList() {
        due("(a . 1)", "(a . 1)");
        due("(a . b)", "(a . b)");
        due("(a . \"s\")", "(a . \"s\")");
        due("(a . ())", "(a)");
        due("(a . (b))", "(a b)");
        due("(a . (b . ()))", "(a b)");
        due("(a . (b . c))", "(a b . c)");
        due("(a . 'b)", "(a quote b)");
        due("(a . ('b))", "(a 'b)");
        due("(() . a)", "(() . a)");
        due("((a . b) . c)", "((a . b) . c)");
    }

    /** "a list of just the name quote and one datum as ' and that". */
    private static void listsOfQuoteAndOneDatum() {
        due("(quote)", "(quote)");
        due("(quote a)", "'a");
        due("(quote a b)", "(quote a b)");
        due("(quote . a)", "(quote . a)");
        due("(quote a . b)", "(quote a . b)");
        due("(quote a . ())", "'a");
        due("(quote ())", "'()");
        due("(quote . ())", "(quote)");
        due("(quote . (a))", "'a");
        due("(quote quote)", "'quote");
        due("(quote quote quote)", "(quote quote quote)");
        due("(quote (quote))", "'(quote)");
        due("(\"quote\" a)", "(\"quote\" a)");
        due("(quot a)", "(quot a)");
        due("(quote- a)", "(quote- a)");
        due("((quote) a)", "((quote) a)");
        due("(('a) . 'b)", "(('a) quote b)");
        due("(a quote b)", "(a quote b)");
        due("((quote a))", "('a)");
        due("(quote . 'a)", "(quote quote a)");
        due("'(quote a)", "''a");
    }

    /** What is written is a text, and its data are like those that were written. */
    private static void writtenIsReadAgain() {
        String[] texts = {"(a . 'b)", "''(quote . (1))", "(\"\\\\\\\"\" . (-0 . +))", "((()) () . ())", "(quote . quote)"};
        for (String text : texts) {
            String once = Check.written(Check.deskOf(text), 0);
            DatumDesk both = Check.deskOf(text + " " + once);
            Check.due("data of <" + text + "> and <" + once + ">", both.count(2), 2);
            Check.due("<" + text + "> like <" + once + ">", both.like(both.datum(0), both.datum(1)), true);
            Check.due("<" + once + "> again", Check.written(both, both.datum(1)), once);
        }
    }

    private static void deepest() {
        due("(".repeat(15) + ")".repeat(15), "(".repeat(15) + ")".repeat(15));
        due("(".repeat(15) + "a . b" + ")".repeat(15), "(".repeat(15) + "a . b" + ")".repeat(15));
        due("'".repeat(15) + "-7", "'".repeat(15) + "-7");
        due("('".repeat(7) + "(\"s\")" + ")".repeat(7), "('".repeat(7) + "(\"s\")" + ")".repeat(7));
        due("(quote ".repeat(15) + "a" + ")".repeat(15), "'".repeat(15) + "a");
        due("(a ".repeat(14) + "(b c . d" + ")".repeat(15), "(a ".repeat(14) + "(b c . d" + ")".repeat(15));
        due("(a '".repeat(7) + "(b c)" + ")".repeat(7), "(a '".repeat(7) + "(b c)" + ")".repeat(7));
        due("(1 . ".repeat(15) + "2" + ")".repeat(15), "(" + "1 ".repeat(15) + ". 2)");
    }

    /** Promise 11: "false if there is no such one". */
    private static void writeOfNodesThatAre() {
        DatumDesk desk = Check.deskOf("a b");
        int[] none = {-1, 2, 199, 200, Integer.MIN_VALUE, Integer.MAX_VALUE};
        for (int node : none) {
            Check.due("write(" + node + ")", desk.write(node), false);
            Check.due("count(3)", desk.count(3), 0);
        }
        Check.due("write(0)", desk.write(0), true);
        Check.due("write(1)", desk.write(1), true);
        for (int node : none) {
            Check.due("write(" + node + ")", desk.write(node), false);
        }
        Check.due("what waits", Check.fetchAll(desk), "ab");
    }

    /** A desk whose node 0 is the datum of a text, with so many bytes x that wait. */
    private static DatumDesk waiting(String datum, int bytes) {
        String twelve = "x".repeat(12);
        String rest = "x".repeat(bytes % 12);
        DatumDesk desk = Check.deskOf(datum + " " + twelve + " " + rest);
        for (int i = 0; i < bytes / 12; i++) {
            desk.write(desk.datum(1));
        }
        if (!rest.isEmpty()) {
            desk.write(desk.datum(2));
        }
        Check.due("count(3) ahead", desk.count(3), bytes);
        return desk;
    }

    /** Promise 11: "At most 500 bytes wait". */
    private static void atMost500Wait() {
        for (int bytes = 488; bytes <= 500; bytes++) {
            DatumDesk desk = waiting("abcdef", bytes);
            Check.due("write(0) behind " + bytes, desk.write(0), true);
            Check.due("count(3)", desk.count(3), Math.min(500, bytes + 6));
            Check.due("write(0) again", desk.write(0), true);
            Check.due("count(3)", desk.count(3), Math.min(500, bytes + 12));
            Check.due("write(-1)", desk.write(-1), false);
            Check.due("count(3)", desk.count(3), Math.min(500, bytes + 12));
        }
    }

    /** Promise 11: "what is beyond is left out", at whichever byte the row is full. */
    private static void whatIsBeyondIsLeftOut() {
        String datum = "('a \"b\\\"\\\\\" -12 () ((quote) e) . de)";
        for (int room = 0; room <= datum.length() + 2; room++) {
            DatumDesk desk = waiting(datum, 500 - room);
            Check.due("write(0)", desk.write(0), true);
            int fits = Math.min(room, datum.length());
            Check.due("count(3)", desk.count(3), 500 - room + fits);
            Check.due("room for " + room, Check.fetchAll(desk), "x".repeat(500 - room) + datum.substring(0, fits));
        }
    }

    /** What was left out does not come later, when there is room again. */
    private static void onlyTheEndOfAFullRowIsLeftOut() {
        DatumDesk desk = waiting("abcdef", 497);
        desk.write(0);
        Check.due("count(3)", desk.count(3), 500);
        desk.fetch();
        Check.due("count(3) behind fetch()", desk.count(3), 493);
        desk.write(0);
        Check.due("count(3) behind write(0)", desk.count(3), 499);
        desk.write(0);
        Check.due("count(3) behind write(0)", desk.count(3), 500);
        Check.due("all that waits", Check.fetchAll(desk), "x".repeat(490) + "abcabcdefa");
    }

    /** Promise 12: "at most 7, which are taken: in the highest byte how many, then these". */
    private static void fetchAtMost7() {
        for (int bytes = 1; bytes <= 22; bytes++) {
            DatumDesk desk = waiting("a", bytes);
            StringBuilder model = new StringBuilder("x".repeat(bytes));
            for (int i = 0; i < 5; i++) {
                fetchAsDue(desk, model);
                Check.due("count(3)", desk.count(3), model.length());
            }
        }
        DatumDesk desk = Check.deskOf("abcdefgh");
        desk.write(0);
        Check.due("fetch() of 8", desk.fetch(), 0x0761626364656667L);
        Check.due("fetch() of the eighth", desk.fetch(), 0x0168000000000000L);
        Check.due("fetch() of none", desk.fetch(), 0);
        Check.put(desk, "abcdefg abcdef");
        desk.read();
        desk.write(0);
        Check.due("fetch() of 7", desk.fetch(), 0x0761626364656667L);
        Check.due("fetch() of none", desk.fetch(), 0);
        desk.write(1);
        Check.due("fetch() of 6", desk.fetch(), 0x0661626364656600L);
        Check.due("fetch() of none", desk.fetch(), 0);
    }

    /** Promise 12: "0 if there are none". */
    private static void fetchOfNone() {
        DatumDesk desk = new DatumDesk();
        Check.due("fetch() of a new object", desk.fetch(), 0);
        Check.put(desk, "abc");
        Check.due("fetch() of a text", desk.fetch(), 0);
        desk.read();
        Check.due("fetch() of nodes", desk.fetch(), 0);
        desk.write(3);
        Check.due("fetch() behind a refused write", desk.fetch(), 0);
        desk.write(0);
        Check.due("fetch()", desk.fetch(), 0x0361626300000000L);
        Check.due("fetch() of none", desk.fetch(), 0);
        Check.due("count(3)", desk.count(3), 0);
    }

    /** More bytes than ever wait at once go through, near a full row and near an empty one. */
    private static void fetchAgainAfterMany() {
        for (int ahead : new int[] {0, 1, 13, 250, 488, 500}) {
            DatumDesk desk = waiting("abcdefghijkl", ahead);
            StringBuilder model = new StringBuilder("x".repeat(ahead));
            for (int i = 0; i < 130; i++) {
                desk.write(0);
                model.append("abcdefghijkl");
                model.setLength(Math.min(500, model.length()));
                fetchAsDue(desk, model);
                if (i % 3 != 0) {
                    fetchAsDue(desk, model);
                }
            }
            Check.due("count(3)", desk.count(3), model.length());
        }
    }

    private static void fetchAsDue(DatumDesk desk, StringBuilder model) {
        int n = Math.min(7, model.length());
        long want = (long) n << 56;
        for (int i = 0; i < n; i++) {
            want |= (long) model.charAt(i) << (48 - 8 * i);
        }
        model.delete(0, n);
        Check.due("fetch()", desk.fetch(), want);
    }

    /** A read, with or without a fault, leaves what waits as it is. */
    private static void fetchKeepsBytesWhole() {
        DatumDesk desk = Check.deskOf("(abc defg)");
        desk.write(0);
        Check.put(desk, "(x");
        desk.read();
        Check.due("count(3) behind a fault", desk.count(3), 10);
        Check.due("fetch()", desk.fetch(), 0x0728616263206465L);
        Check.put(desk, "yz");
        desk.read();
        desk.write(0);
        Check.due("fetch()", desk.fetch(), 0x05666729797a0000L);
        Check.due("fetch() of none", desk.fetch(), 0);
    }
}
