/** Promises 3 (read) and 5 (datum): what is a text, and how many data it has. */
public final class ReadTest {
    public static void main(String[] args) {
        blanksAndComments();
        tokensSideBySide();
        tokensAtTheirLimits();
        data();
        readAgain();
        Check.finish();
    }

    private static void blanksAndComments() {
        Check.dueData("", 0);
        Check.dueData("  \n \n", 0);
        Check.dueData("; all of it", 0);
        Check.dueData(";", 0);
        Check.dueData("a;b\nc", 2);
        Check.dueData("a ; (\" ' \u0000\u00ff\t . \n;;b\n c;d", 2);
        Check.dueData("(;x\na;y\n.;z\nb;)\n);", 1);
        Check.dueData("';x\n a", 1);
        Check.dueData("\";\" ;\"", 1);
    }

    private static void tokensSideBySide() {
        Check.dueData("a'b", 2);
        Check.dueData("a\"b\"c\"d\"1", 5);
        Check.dueData("\"\"\"\"", 2);
        Check.dueData("1(2)3()a", 5);
        Check.dueData("(\"a\".\"b\")", 1);
        Check.dueData("((a).(b))", 1);
        Check.dueData("('a .'b)", 1);
        Check.dueData("(a .;c\nb)", 1);
    }

    private static void tokensAtTheirLimits() {
        Check.dueData("0 -0 123456789 -123456789 000000000", 5);
        Check.dueData("+ * / = < > ! ? a z", 10);
        Check.dueData("+*/=<>!?az09 a----------- +12345678901 a-1", 4);
        Check.dueData("\"\" \" ~;()'.\" \"12345678901234567890\"", 3);
        Check.dueData("\"" + "\\\"".repeat(20) + "\" \"" + "\\\\".repeat(20) + "\"", 2);
        Check.dueData("(".repeat(15) + ")".repeat(15), 1);
        Check.dueData("'".repeat(15) + "a", 1);
        Check.dueData("('(".repeat(5) + "))".repeat(5), 1);
        Check.dueData("a ".repeat(200), 200);
        Check.dueData("()".repeat(200), 200);
    }

    private static void data() {
        DatumDesk desk = Check.deskOf("a (b c) () '1 \"s\"");
        int[] nodes = {0, 1, 6, 7, 12};
        for (int k = 0; k < nodes.length; k++) {
            Check.due("datum(" + k + ")", desk.datum(k), nodes[k]);
        }
        for (int k : new int[] {-1, 5, 200, Integer.MIN_VALUE, Integer.MAX_VALUE}) {
            Check.due("datum(" + k + ")", desk.datum(k), -1);
        }
    }

    private static void readAgain() {
        DatumDesk desk = Check.deskOf("a b c");
        desk.write(2);
        Check.due("put", Check.put(desk, "(1)"), true);
        Check.due("count(1) ahead of read", desk.count(1), 3);
        Check.due("read()", desk.read(), 1);
        Check.due("count(1)", desk.count(1), 3);
        Check.due("datum(1)", desk.datum(1), -1);
        Check.due("count(3)", desk.count(3), 1);
        Check.due("read() of nothing", desk.read(), 0);
        Check.due("count(1)", desk.count(1), 0);
        Check.due("count(3)", desk.count(3), 1);
        Check.due("what waits", Check.fetchAll(desk), "c");
        Check.put(desk, ")");
        Check.due("read() of a fault", desk.read(), -1);
        Check.due("place()", desk.place(), 0);
        Check.due("read() of nothing", desk.read(), 0);
        Check.due("place()", desk.place(), -1);
    }
}
