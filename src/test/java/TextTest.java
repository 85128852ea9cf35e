/** Promises 1 (a new object), 2 (put) and 13 (count). */
public final class TextTest {
    public static void main(String[] args) {
        newObject();
        put();
        putRefused();
        putAtTheLimit();
        count();
        Check.finish();
    }

    private static void newObject() {
        DatumDesk desk = new DatumDesk();
        for (int what = 0; what < 4; what++) {
            Check.due("count(" + what + ")", desk.count(what), 0);
        }
        Check.due("place()", desk.place(), -1);
        Check.due("datum(0)", desk.datum(0), -1);
        Check.due("kind(0)", desk.kind(0), 0);
        Check.due("value(0)", desk.value(0), 0);
        Check.due("byteAt(0, 0)", desk.byteAt(0, 0), -1);
        Check.due("part(0, 0)", desk.part(0, 0), -1);
        Check.due("like(0, 0)", desk.like(0, 0), false);
        Check.due("write(0)", desk.write(0), false);
        Check.due("fetch()", desk.fetch(), 0);
        Check.due("read()", desk.read(), 0);
        Check.due("place()", desk.place(), -1);
    }

    private static void put() {
        DatumDesk desk = new DatumDesk();
        Check.due("put of 2 of 8 bytes", desk.put(0x4141414141416162L, 2), true);
        Check.due("put of 1", desk.put(0x63L, 1), true);
        Check.due("put of 8", desk.put(0x6465666768696a6bL, 8), true);
        Check.due("count(0)", desk.count(0), 11);
        Check.due("read()", desk.read(), 1);
        Check.due("the name", Check.bytesOf(desk, 0), "abcdefghijk");
        Check.due("put of a byte above 127", desk.put(0x20ff, 2), true);
        Check.due("read()", desk.read(), -1);
        Check.due("place()", desk.place(), 1);
        Check.due("put of a negative v", desk.put(-1L << 8 | 'z', 1), true);
        Check.due("read()", desk.read(), 1);
        Check.due("the name", Check.bytesOf(desk, 0), "z");
    }

    private static void putRefused() {
        DatumDesk desk = new DatumDesk();
        desk.put('a', 1);
        for (int n : new int[] {0, -1, 9, 64, Integer.MIN_VALUE, Integer.MAX_VALUE}) {
            Check.due("put(1, " + n + ")", desk.put(1, n), false);
            Check.due("count(0)", desk.count(0), 1);
        }
        Check.due("read()", desk.read(), 1);
    }

    private static void putAtTheLimit() {
        DatumDesk desk = new DatumDesk();
        Check.due("396 bytes", Check.put(desk, " ".repeat(396)), true);
        Check.due("5 more", desk.put(0, 5), false);
        Check.due("count(0)", desk.count(0), 396);
        Check.due("4 more", desk.put(0x20202061L, 4), true);
        Check.due("count(0)", desk.count(0), 400);
        Check.due("1 more", desk.put('b', 1), false);
        Check.due("read()", desk.read(), 1);
        Check.due("count(0)", desk.count(0), 0);
        Check.due("the name", Check.bytesOf(desk, 0), "a");
        Check.due("put behind read", desk.put('b', 1), true);
    }

    private static void count() {
        DatumDesk desk = Check.deskOf("(a b) 12");
        desk.put(0x6161, 2);
        desk.write(0);
        Check.due("count(0)", desk.count(0), 2);
        Check.due("count(1)", desk.count(1), 6);
        Check.due("count(2)", desk.count(2), 2);
        Check.due("count(3)", desk.count(3), 5);
        for (int what : new int[] {-1, 4, Integer.MIN_VALUE, Integer.MAX_VALUE}) {
            Check.due("count(" + what + ")", desk.count(what), -1);
        }
    }
}
