/** "A call that is refused changes nothing", in each state that a desk may be in. */
public final class RefusedTest {
    private static final int[] NO_NODE = {-1, 12, 199, 200, Integer.MIN_VALUE, Integer.MAX_VALUE};

    public static void main(String[] args) {
        inEachState(new DatumDesk(), "", "");
        inEachState(deskOf("(a . b) 'c 12 \"s\"", "", false), "", "");
        inEachState(deskOf("(a . b) 'c 12 \"s\"", "d e", false), "d e", "");
        inEachState(deskOf("(a . b) 'c 12 \"s\"", "d (e", true), "d (e", "(a . b)");
        inEachState(deskOf("(a . b) )", "", false), "", "");
        inEachState(deskOf("a b (", "\"f", false), "\"f", "");
        inEachState(deskOf("a", " ".repeat(399) + "g", true), " ".repeat(399) + "g", "a");
        putRefusedAtEachLength();
        writeRefusedWithAFullRow();
        Check.finish();
    }

    private static DatumDesk deskOf(String text, String next, boolean write) {
        DatumDesk desk = Check.deskOf(text);
        if (write) {
            desk.write(0);
        }
        Check.put(desk, next);
        return desk;
    }

    /** text is what was put since the last read, waits what was written: both must be left as they are. */
    private static void inEachState(DatumDesk desk, String text, String waits) {
        String before = Check.state(desk);
        for (int n : new int[] {0, -1, 9, 64, Integer.MIN_VALUE, Integer.MAX_VALUE}) {
            Check.due("put(.., " + n + ")", desk.put(0x7878787878787878L, n), false);
        }
        for (int n = 401 - text.length(); n <= 8; n++) {
            Check.due("put(.., " + n + ") behind " + text.length(), desk.put(0x7878787878787878L, n), false);
        }
        for (int node : NO_NODE) {
            refusedOf(desk, node);
        }
        for (int far : new int[] {-1, 4, Integer.MIN_VALUE, Integer.MAX_VALUE}) {
            Check.due("count(" + far + ")", desk.count(far), -1);
            Check.due("datum(" + far + ")", desk.datum(far), -1);
            Check.due("part(0, " + far + ")", desk.part(0, far), -1);
            Check.due("byteAt(0, " + far + ")", desk.byteAt(0, far), -1);
        }
        Check.due("the state", Check.state(desk), before);
        Check.due("what waits", Check.fetchAll(desk), waits);
        DatumDesk other = new DatumDesk();
        Check.put(other, text);
        Check.due("read()", desk.read(), other.read());
        Check.due("the state behind read()", Check.state(desk), Check.state(other));
    }

    private static void refusedOf(DatumDesk desk, int node) {
        Check.due("kind(" + node + ")", desk.kind(node), 0);
        Check.due("value(" + node + ")", desk.value(node), 0);
        Check.due("byteAt(" + node + ", 0)", desk.byteAt(node, 0), -1);
        Check.due("part(" + node + ", 0)", desk.part(node, 0), -1);
        Check.due("like(" + node + ", 0)", desk.like(node, 0), false);
        Check.due("write(" + node + ")", desk.write(node), false);
    }

    /** No byte of a refused put comes into the text, not even those that there was room for. */
    private static void putRefusedAtEachLength() {
        for (int n = 1; n <= 8; n++) {
            for (int room = 0; room < n; room++) {
                DatumDesk desk = new DatumDesk();
                Check.put(desk, " ".repeat(400 - room));
                Check.due("put of " + n, desk.put(0x6161616161616161L, n), false);
                Check.due("count(0)", desk.count(0), 400 - room);
                if (room > 0) {
                    Check.due("put of " + room, desk.put(0x2020202020202020L, room), true);
                }
                Check.due("read()", desk.read(), 0);
            }
        }
    }

    private static void writeRefusedWithAFullRow() {
        DatumDesk desk = Check.deskOf("abcdefghij");
        for (int i = 0; i < 50; i++) {
            desk.write(0);
        }
        Check.due("write(1)", desk.write(1), false);
        Check.due("count(3)", desk.count(3), 500);
        Check.due("what waits", Check.fetchAll(desk), "abcdefghij".repeat(50));
        Check.due("write(1)", desk.write(1), false);
        Check.due("fetch()", desk.fetch(), 0);
    }
}
