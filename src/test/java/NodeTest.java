/** Promises 6 (kind), 7 (value), 8 (byteAt) and 9 (part), and how nodes are numbered. */
public final class NodeTest {
    public static void main(String[] args) {
        shapes();
        values();
        bytes();
        partsOfOthers();
        noSuchNode();
        Check.finish();
    }

    private static void dueShape(String text, String... shapes) {
        DatumDesk desk = Check.deskOf(text);
        Check.due("count(2) of " + text, desk.count(2), shapes.length);
        for (int k = 0; k < shapes.length; k++) {
            Check.due(text, Check.shape(desk, desk.datum(k)), shapes[k]);
        }
    }

    private static void shapes() {
        dueShape("a 1 \"s\" ()", "0:a", "1:1", "2:\"s\"", "3:()");
        dueShape("(a b c)", "0:(1:a . 2:(3:b . 4:(5:c . 6:())))");
        dueShape("(a . b)", "0:(1:a . 2:b)");
        dueShape("(a b . c)", "0:(1:a . 2:(3:b . 4:c))");
        dueShape("(a . (b . (c . ())))", "0:(1:a . 2:(3:b . 4:(5:c . 6:())))");
        dueShape("(a . (b c))d", "0:(1:a . 2:(3:b . 4:(5:c . 6:())))", "7:d");
        dueShape("'a b", "0:(1:quote . 2:(3:a . 4:()))", "5:b");
        dueShape("''a", "0:(1:quote . 2:(3:(4:quote . 5:(6:a . 7:())) . 8:()))");
        dueShape("'(a)", "0:(1:quote . 2:(3:(4:a . 5:()) . 6:()))");
        dueShape("((a) ())", "0:(1:(2:a . 3:()) . 4:(5:() . 6:()))");
        dueShape("(() . ())", "0:(1:() . 2:())");
        dueShape("(a . 'b)", "0:(1:a . 2:(3:quote . 4:(5:b . 6:())))");
        dueShape("('a . \"b\")", "0:(1:(2:quote . 3:(4:a . 5:())) . 6:\"b\")");
    }

    private static void values() {
        int[] due = {0, 0, 7, -7, 999999999, -999999999, 12, -12};
        DatumDesk desk = Check.deskOf("0 -0 7 -7 999999999 -999999999 000000012 -012");
        for (int node = 0; node < due.length; node++) {
            Check.due("kind(" + node + ")", desk.kind(node), 1);
            Check.due("value(" + node + ")", desk.value(node), due[node]);
        }
        desk = Check.deskOf("abcdefghijkl \"\" \"a\\\\\\\"\" (1 . 2) () 'x");
        int[] more = {12, 0, 3, 0, 1, 2, 0, 0, 5, 0, 1, 0};
        for (int node = 0; node < more.length; node++) {
            Check.due("value(" + node + ")", desk.value(node), more[node]);
        }
    }

    private static void bytes() {
        DatumDesk desk = Check.deskOf("+*/=<>!?az09 \"\\\"\\\\ ~\" 'quote \"\" a-b");
        Check.due("a name", Check.bytesOf(desk, 0), "+*/=<>!?az09");
        Check.due("a string", Check.bytesOf(desk, 1), "\"\\ ~");
        Check.due("the name of '", Check.bytesOf(desk, 3), "quote");
        Check.due("a name behind '", Check.bytesOf(desk, 5), "quote");
        Check.due("an empty string", Check.bytesOf(desk, 7), "");
        Check.due("a name behind all", Check.bytesOf(desk, 8), "a-b");
        desk = Check.deskOf("12 () (3)");
        for (int node = 0; node < 5; node++) {
            Check.due("byteAt(" + node + ", 0)", desk.byteAt(node, 0), -1);
        }
        desk = Check.deskOf("ab cd");
        for (int k : new int[] {-1, 2, Integer.MIN_VALUE, Integer.MAX_VALUE}) {
            Check.due("byteAt(0, " + k + ")", desk.byteAt(0, k), -1);
            Check.due("byteAt(1, " + k + ")", desk.byteAt(1, k), -1);
        }
    }

    private static void partsOfOthers() {
        DatumDesk desk = Check.deskOf("(1) a \"s\" ()");
        Check.due("part(0, 0)", desk.part(0, 0), 1);
        Check.due("part(0, 1)", desk.part(0, 1), 2);
        for (int part : new int[] {-1, 2, Integer.MIN_VALUE, Integer.MAX_VALUE}) {
            Check.due("part(0, " + part + ")", desk.part(0, part), -1);
        }
        for (int node = 1; node < 6; node++) {
            Check.due("part(" + node + ", 0)", desk.part(node, 0), -1);
            Check.due("part(" + node + ", 1)", desk.part(node, 1), -1);
        }
    }

    private static void noSuchNode() {
        DatumDesk desk = Check.deskOf("a ".repeat(200));
        desk.read();
        Check.put(desk, "(abc)");
        desk.read();
        for (int node : new int[] {-1, 3, 199, 200, Integer.MIN_VALUE, Integer.MAX_VALUE}) {
            Check.due("kind(" + node + ")", desk.kind(node), 0);
            Check.due("value(" + node + ")", desk.value(node), 0);
            Check.due("byteAt(" + node + ", 0)", desk.byteAt(node, 0), -1);
            Check.due("part(" + node + ", 0)", desk.part(node, 0), -1);
            Check.due("part(" + node + ", 1)", desk.part(node, 1), -1);
            Check.due("write(" + node + ")", desk.write(node), false);
            Check.due("like(" + node + ", 0)", desk.like(node, 0), false);
            Check.due("like(0, " + node + ")", desk.like(0, node), false);
            Check.due("like of both", desk.like(node, node), false);
        }
        Check.due("count(3)", desk.count(3), 0);
    }
}
