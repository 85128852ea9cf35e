/** Promises 11 (write) and 12 (fetch). */
public final class WriteTest {
    public static void main(String[] args) {
        atoms();
        lists();
        quotes();
        innerNodes();
        behindWhatWaits();
        atMost500();
        ringGoesRound();
        fetchForm();
        Check.finish();
    }

    private static void due(String text, String want) {
        DatumDesk desk = Check.deskOf(text);
        Check.due(text, Check.written(desk, desk.datum(0)), want);
    }

    private static void same(String text) {
        due(text, text);
    }

    private static void atoms() {
        due("0", "0");
        due("-0", "0");
        due("-000", "0");
        due("007", "7");
        due("-0120", "-120");
        same("100000000");
        same("999999999");
        same("-999999999");
        same("100200");
        same("90");
        same("+*/=<>!?az09");
        same("\"\"");
        same("\"a b;(')~\"");
        same("\"\\\"\\\\x\"");
        same("\"" + "\\\"".repeat(20) + "\"");
    }

    private static void lists() {
        due("( )", "()");
        same("(a)");
        due("( a  b;c\nd )", "(a b d)");
        same("(a . b)");
        same("(a b . 3)");
        due("(a . (b . c))", "(a b . c)");
        due("(a . (b . ()))", "(a b)");
        due("(a . ())", "(a)");
        due("(()())", "(() ())");
        due("(\"a\".\"b\")", "(\"a\" . \"b\")");
        same("((a . 1) ((b)) ())");
        same("(".repeat(14) + "a" + ")".repeat(14));
        same("(".repeat(14) + "(a . b)" + ")".repeat(14));
        due("(".repeat(15) + ")".repeat(15), "(".repeat(15) + ")".repeat(15));
        due("(a . ".repeat(15) + "b" + ")".repeat(15), "(" + "a ".repeat(15) + ". b)");
    }

    private static void quotes() {
        same("'a");
        same("'".repeat(15) + "a");
        same("''()");
        due("(quote a)", "'a");
        due("(quote . (a))", "'a");
        due("(quote quote)", "'quote");
        due("(quote (quote a))", "''a");
        same("(quote)");
        same("(quote . a)");
        same("(quote a b)");
        same("(quote a . b)");
        same("(\"quote\" a)");
        same("(quot a)");
        same("(ruote a)");
        same("(quotf a)");
        same("(quotes a)");
        same("'(a . b)");
        due("(a . 'b)", "(a quote b)");
        due("('a . 'b)", "('a quote b)");
        due("'quote", "'quote");
        due("(quote 'a)", "''a");
        due("(quote . 'a)", "(quote quote a)");
    }

    private static void innerNodes() {
        DatumDesk desk = Check.deskOf("(a quote (b) . ()) c");
        Check.due("0", Check.written(desk, 0), "(a quote (b))");
        Check.due("1", Check.written(desk, 1), "a");
        Check.due("2", Check.written(desk, 2), "'(b)");
        Check.due("4", Check.written(desk, 4), "((b))");
        Check.due("7", Check.written(desk, 7), "()");
        Check.due("8", Check.written(desk, 8), "()");
        Check.due("9", Check.written(desk, 9), "c");
    }

    private static void behindWhatWaits() {
        DatumDesk desk = Check.deskOf("ab 12 (c)");
        desk.write(0);
        desk.write(1);
        desk.write(2);
        Check.due("write(5)", desk.write(5), false);
        Check.due("write(-1)", desk.write(-1), false);
        Check.due("count(3)", desk.count(3), 7);
        Check.due("all that waits", Check.fetchAll(desk), "ab12(c)");
    }

    private static void atMost500() {
        DatumDesk desk = Check.deskOf("abcdefghi 123 (x y)");
        StringBuilder want = new StringBuilder();
        for (int i = 0; i < 55; i++) {
            Check.due("write(0)", desk.write(0), true);
            want.append("abcdefghi");
        }
        Check.due("count(3)", desk.count(3), 495);
        desk.write(1);
        Check.due("count(3)", desk.count(3), 498);
        Check.due("write beyond 500", desk.write(2), true);
        Check.due("count(3)", desk.count(3), 500);
        Check.due("write of which nothing is left", desk.write(2), true);
        Check.due("count(3)", desk.count(3), 500);
        Check.due("all that waits", Check.fetchAll(desk), want + "123(x");
        Check.due("write behind all", Check.written(desk, 2), "(x y)");
    }

    private static void ringGoesRound() {
        DatumDesk desk = Check.deskOf("abcdefghijkl");
        StringBuilder got = new StringBuilder();
        StringBuilder want = new StringBuilder();
        for (int i = 0; i < 60; i++) {
            desk.write(0);
            want.append("abcdefghijkl");
            if (i % 20 == 19) {
                got.append(Check.fetchAll(desk));
            }
        }
        got.append(Check.fetchAll(desk));
        Check.due("all that was written", got.toString(), want.toString());
    }

    private static void fetchForm() {
        DatumDesk desk = Check.deskOf("abcdefghi");
        desk.write(0);
        Check.due("fetch() of 7", desk.fetch(), 0x0761626364656667L);
        Check.due("fetch() of 2", desk.fetch(), 0x0268690000000000L);
        Check.due("fetch() of none", desk.fetch(), 0);
        Check.due("fetch() of none", desk.fetch(), 0);
    }
}
