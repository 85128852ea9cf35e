/** Promise 10 (like). */
public final class LikeTest {
    public static void main(String[] args) {
        alike();
        notAlike();
        Check.finish();
    }

    private static void due(String one, String other, boolean want) {
        DatumDesk desk = Check.deskOf(one + " " + other);
        Check.due("count(2)", desk.count(2), 2);
        int a = desk.datum(0);
        int b = desk.datum(1);
        Check.due(one + " like " + other, desk.like(a, b), want);
        Check.due(other + " like " + one, desk.like(b, a), want);
        Check.due(one + " like itself", desk.like(a, a), true);
    }

    private static void alike() {
        due("1", "001", true);
        due("0", "-0", true);
        due("-5", "-05", true);
        due("abc", "abc", true);
        due("\"a\\\"\"", "\"a\\\"\"", true);
        due("\"\"", "\"\"", true);
        due("()", "( )", true);
        due("(a b)", "(a . (b . ()))", true);
        due("'a", "(quote a)", true);
        due("''(a . b)", "(quote '(a . b))", true);
        due("(a . 'b)", "(a quote b)", true);
        String deep = "(".repeat(15) + "a" + ")".repeat(15);
        due(deep, deep, true);
        String quoted = "'".repeat(15) + "a";
        due(quoted, quoted, true);
        String dotted = "(a . ".repeat(15) + "b" + ")".repeat(15);
        due(dotted, "(" + "a ".repeat(15) + ". b)", true);
        String second = "(a ".repeat(15) + ")".repeat(15);
        due(second, second, true);
        String wide = "(" + "a ".repeat(49) + ")";
        due(wide, wide, true);
    }

    private static void notAlike() {
        due("1", "2", false);
        due("1", "-1", false);
        due("abc", "abd", false);
        due("abc", "ab", false);
        due("\"ab\"", "\"ac\"", false);
        due("\"a\"", "\"a \"", false);
        due("a", "\"a\"", false);
        due("1", "a", false);
        due("5", "\"abcde\"", false);
        due("0", "\"\"", false);
        due("0", "()", false);
        due("\"\"", "()", false);
        due("()", "(())", false);
        due("a", "(a)", false);
        due("()", "(a)", false);
        due("a", "((a))", false);
        due("()", "((()))", false);
        due("(a . 1)", "(a (1))", false);
        due("(a 1)", "(a ((1)))", false);
        due("(a . b)", "(a . (b . c))", false);
        due("(a b)", "(a c)", false);
        due("(a b)", "(a b c)", false);
        due("(a b)", "(a . b)", false);
        due("(a . b)", "(c . b)", false);
        due("((a) b)", "((c) b)", false);
        due("'a", "(\"quote\" a)", false);
        String open = "(".repeat(15);
        String close = ")".repeat(15);
        due(open + "a" + close, open + "b" + close, false);
        due("(a ".repeat(15) + close, "(a ".repeat(14) + "(b" + close, false);
        due("'".repeat(15) + "a", "'".repeat(15) + "b", false);
    }
}
