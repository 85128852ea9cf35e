/** The sentences of promises 1 to 13 that name an edge, each on both of its sides. */
public final class PromiseEdgeTest {
    private static final int[] FAR = {Integer.MIN_VALUE, -500, -2, 250, 1000, Integer.MAX_VALUE};

    public static void main(String[] args) {
        putOf1To8Bytes();
        putUpTo400();
        putTheLowestBytesHighestFirst();
        readEmptiesTheText();
        readOfManyTexts();
        readOfNoData();
        readWithAFault();
        placeOfTheLastRead();
        datumFrom0();
        nodesFrom0();
        allNodes();
        bytesFrom0();
        partsOfPairs();
        likeOfNodesThatAre();
        likeAtEachNode();
        countOfFour();
        Check.finish();
    }

    /** Promise 2: "false if n is not 1 .. 8". */
    private static void putOf1To8Bytes() {
        for (int n = -20; n <= 80; n++) {
            DatumDesk desk = new DatumDesk();
            Check.due("put(.., " + n + ")", desk.put(0x6162636465666768L, n), n >= 1 && n <= 8);
            Check.due("count(0)", desk.count(0), n >= 1 && n <= 8 ? n : 0);
        }
        for (int n : FAR) {
            DatumDesk desk = new DatumDesk();
            Check.due("put(.., " + n + ")", desk.put(0x6162636465666768L, n), false);
            Check.due("count(0)", desk.count(0), 0);
        }
    }

    /** Promise 2: "or there would be more than 400". */
    private static void putUpTo400() {
        for (int n = 1; n <= 8; n++) {
            for (int length = 390; length <= 400; length++) {
                DatumDesk desk = new DatumDesk();
                Check.put(desk, " ".repeat(length));
                boolean fits = length + n <= 400;
                Check.due(n + " behind " + length, desk.put(0x2020202020202020L, n), fits);
                Check.due("count(0)", desk.count(0), fits ? length + n : length);
                Check.due("read()", desk.read(), 0);
                Check.due("put of 8 behind read()", desk.put(0x2020202020202020L, 8), true);
            }
        }
        DatumDesk desk = new DatumDesk();
        for (int i = 0; i < 400; i++) {
            Check.due("put of one", desk.put(' ', 1), true);
        }
        Check.due("put of one more", desk.put(' ', 1), false);
        Check.due("count(0)", desk.count(0), 400);
    }

    /** Promise 2: "The lowest n bytes of v, the highest of them first". */
    private static void putTheLowestBytesHighestFirst() {
        String all = "abcdefgh";
        for (int n = 1; n <= 8; n++) {
            DatumDesk desk = new DatumDesk();
            desk.put(0x6162636465666768L, n);
            desk.read();
            Check.due("the lowest " + n, Check.bytesOf(desk, 0), all.substring(8 - n));
        }
        DatumDesk desk = new DatumDesk();
        desk.put(0x226162ffL, 4);
        Check.due("read() of a byte 255", desk.read(), -1);
        desk.put(-1L, 8);
        Check.due("read() of -1", desk.read(), -1);
        desk.put(Long.MIN_VALUE, 8);
        Check.due("read() of the least long", desk.read(), -1);
        Check.due("place()", desk.place(), 0);
        desk.put(Long.MIN_VALUE | 0x2020202020202061L, 7);
        Check.due("read() of 7 of its bytes", desk.read(), 1);
    }

    /** Promise 3: "The text is read, and empty then". */
    private static void readEmptiesTheText() {
        for (String text : new String[] {"", "a", "(a", ")", " ".repeat(400), "(".repeat(400)}) {
            DatumDesk desk = Check.deskOf(text);
            Check.due("count(0) behind read()", desk.count(0), 0);
            Check.due("read() again", desk.read(), 0);
            Check.due("place()", desk.place(), -1);
            Check.due("put", Check.put(desk, "b c"), true);
            Check.due("read() of the next text", desk.read(), 2);
            Check.due("the next text", Check.bytesOf(desk, 0), "b");
        }
    }

    /** Promise 3: a text has room for all its bytes, however many texts were read before it. */
    private static void readOfManyTexts() {
        DatumDesk desk = new DatumDesk();
        for (int i = 0; i < 5; i++) {
            char letter = (char) ('a' + i);
            String name = Character.toString(letter).repeat(12);
            String string = "\"" + Character.toString(letter).repeat(20) + "\"";
            Check.put(desk, (name + " ").repeat(13) + string.repeat(10));
            Check.due("count(0)", desk.count(0), 389);
            Check.due("read()", desk.read(), 23);
            Check.due("the last name", Check.bytesOf(desk, 12), name);
            Check.due("the last string", Check.written(desk, 22), string);
            Check.put(desk, "(" + name + " 1a");
            Check.due("read() of a fault", desk.read(), -1);
        }
    }

    /** Promise 3: no data is no fault, and what was read before is gone. */
    private static void readOfNoData() {
        for (String text : new String[] {"", " ", "\n", ";", "; a", ";a\n \n;b"}) {
            DatumDesk desk = Check.deskOf("(a b)");
            Check.put(desk, text);
            Check.due("read() of <" + text + ">", desk.read(), 0);
            Check.due("all of it", Check.state(desk), Check.state(new DatumDesk()));
        }
    }

    /** Promise 3: "-1 if it has a fault (then there are no nodes)". */
    private static void readWithAFault() {
        for (String text : new String[] {"a)", "(a b", "'a'", "b 12a", "'a".repeat(41), "a" + "(".repeat(16)}) {
            DatumDesk desk = Check.deskOf("(a b) \"c\"");
            desk.write(0);
            Check.put(desk, text);
            Check.due("nodes ahead of read()", desk.count(1), 6);
            Check.due("read() of <" + text + ">", desk.read(), -1);
            Check.due("what is left", Check.state(desk), desk.place() + " 0 0 0 5 | -1 | 0/0/-1/-1/-1/-1");
            Check.due("like(0, 0)", desk.like(0, 0), false);
            Check.due("write(0)", desk.write(0), false);
            Check.due("what waits", Check.fetchAll(desk), "(a b)");
        }
    }

    /** Promise 4: "The place of the last read's fault; -1 without one". */
    private static void placeOfTheLastRead() {
        DatumDesk desk = new DatumDesk();
        Check.due("place() ahead of a read", desk.place(), -1);
        Check.put(desk, "a b )");
        Check.due("place() ahead of the read", desk.place(), -1);
        desk.read();
        Check.due("place() of a fault", desk.place(), 4);
        Check.put(desk, "c");
        desk.write(0);
        desk.fetch();
        desk.put(0, 0);
        Check.due("place() until the next read", desk.place(), 4);
        desk.read();
        Check.due("place() without a fault", desk.place(), -1);
        Check.put(desk, ")");
        desk.read();
        Check.due("place() of the first byte", desk.place(), 0);
        Check.put(desk, "(" + " ".repeat(399));
        desk.read();
        Check.due("place() of the last end", desk.place(), 400);
        desk.read();
        Check.due("place() of no text", desk.place(), -1);
    }

    /** Promise 5: "from 0 ... -1 if there is none". */
    private static void datumFrom0() {
        for (int n = 0; n <= 200; n += n < 4 || n > 195 ? 1 : 32) {
            DatumDesk desk = Check.deskOf("1 ".repeat(n));
            Check.due("count(2)", desk.count(2), n);
            for (int k = -1; k <= n; k++) {
                Check.due("datum(" + k + ") of " + n, desk.datum(k), k < n ? k : -1);
            }
            for (int k : FAR) {
                Check.due("datum(" + k + ") of " + n, desk.datum(k), -1);
            }
        }
        DatumDesk desk = Check.deskOf("(a b)");
        Check.due("datum(0)", desk.datum(0), 0);
        Check.due("datum(1), which is a node but no datum", desk.datum(1), -1);
    }

    /** Promises 6 to 9: a node that there is none of, ahead of the first and behind the last. */
    private static void nodesFrom0() {
        DatumDesk desk = Check.deskOf("a \"bc\"");
        dueNone(desk, -1);
        Check.due("kind(0)", desk.kind(0), 2);
        Check.due("value(0)", desk.value(0), 1);
        Check.due("kind(1)", desk.kind(1), 3);
        Check.due("value(1)", desk.value(1), 2);
        dueNone(desk, 2);
        for (int node : FAR) {
            dueNone(desk, node);
        }
        dueNone(new DatumDesk(), 0);
        dueNone(Check.deskOf("a b )"), 0);
    }

    private static void dueNone(DatumDesk desk, int node) {
        Check.due("kind(" + node + ")", desk.kind(node), 0);
        Check.due("value(" + node + ")", desk.value(node), 0);
        for (int k = -1; k < 3; k++) {
            Check.due("byteAt(" + node + ", " + k + ")", desk.byteAt(node, k), -1);
            Check.due("part(" + node + ", " + k + ")", desk.part(node, k), -1);
        }
        Check.due("like(" + node + ", " + node + ")", desk.like(node, node), false);
        Check.due("write(" + node + ")", desk.write(node), false);
        Check.due("count(3)", desk.count(3), 0);
    }

    /** Node 199 is one, node 200 none; and behind a text of few nodes those of the last one are none. */
    private static void allNodes() {
        String list = "(" + "a ".repeat(98) + ". bc)";
        Check.due("count(1) of 201 nodes", Check.deskOf("12 34 56 78 " + list).count(1), 0);
        DatumDesk desk = Check.deskOf("12 34 56 " + list);
        Check.due("count(1)", desk.count(1), 200);
        Check.due("kind(199)", desk.kind(199), 2);
        Check.due("value(199)", desk.value(199), 2);
        Check.due("byteAt(199, 1)", desk.byteAt(199, 1), 'c');
        Check.due("part(197, 1)", desk.part(197, 1), 199);
        Check.due("kind(197)", desk.kind(197), 4);
        Check.due("like(199, 199)", desk.like(199, 199), true);
        Check.due("write(199)", Check.written(desk, 199), "bc");
        dueNone(desk, 200);
        Check.put(desk, "x");
        desk.read();
        dueNone(desk, 1);
        dueNone(desk, 199);
    }

    /** Promise 8: "-1 if there is none". */
    private static void bytesFrom0() {
        DatumDesk desk = Check.deskOf("abcdefghijkl \"12345678901234567890\" \"\" 12 (x)");
        String[] bytes = {"abcdefghijkl", "12345678901234567890", "", "", "", "x", ""};
        for (int node = 0; node < bytes.length; node++) {
            for (int k = -2; k <= bytes[node].length() + 1; k++) {
                boolean is = k >= 0 && k < bytes[node].length();
                Check.due("byteAt(" + node + ", " + k + ")", desk.byteAt(node, k), is ? bytes[node].charAt(k) : -1);
            }
            for (int k : FAR) {
                Check.due("byteAt(" + node + ", " + k + ")", desk.byteAt(node, k), -1);
            }
        }
    }

    /** Promise 9: "Of a pair its head (part 0) or tail (1); -1 for others". */
    private static void partsOfPairs() {
        DatumDesk desk = Check.deskOf("(a . \"b\") 12 () 'c");
        int[] heads = {1, -1, -1, -1, -1, 6, -1, 8, -1, -1};
        int[] tails = {2, -1, -1, -1, -1, 7, -1, 9, -1, -1};
        for (int node = 0; node < heads.length; node++) {
            Check.due("part(" + node + ", -1)", desk.part(node, -1), -1);
            Check.due("part(" + node + ", 0)", desk.part(node, 0), heads[node]);
            Check.due("part(" + node + ", 1)", desk.part(node, 1), tails[node]);
            Check.due("part(" + node + ", 2)", desk.part(node, 2), -1);
            for (int part : FAR) {
                Check.due("part(" + node + ", " + part + ")", desk.part(node, part), -1);
            }
        }
    }

    /** Promise 10: "false if there is no such one". */
    private static void likeOfNodesThatAre() {
        DatumDesk desk = Check.deskOf("a a");
        for (int a = -2; a <= 3; a++) {
            for (int b = -2; b <= 3; b++) {
                Check.due("like(" + a + ", " + b + ")", desk.like(a, b), (a == 0 || a == 1) && (b == 0 || b == 1));
            }
        }
        for (int far : FAR) {
            Check.due("like(0, " + far + ")", desk.like(0, far), false);
            Check.due("like(" + far + ", 0)", desk.like(far, 0), false);
            Check.due("like(" + far + ", " + far + ")", desk.like(far, far), false);
        }
    }

    /** Of two lists that differ in one place only those nodes are not alike that hold the place. */
    private static void likeAtEachNode() {
        DatumDesk desk = Check.deskOf("(1 (a \"s\") . b) (1 (a \"t\") . b)");
        boolean[] alike = {false, true, false, false, true, false, false, true, true};
        for (int node = 0; node < alike.length; node++) {
            int other = node + alike.length;
            Check.due("like(" + node + ", " + other + ")", desk.like(node, other), alike[node]);
            Check.due("like(" + other + ", " + node + ")", desk.like(other, node), alike[node]);
        }
    }

    /** Promise 13: "-1 for another what". */
    private static void countOfFour() {
        DatumDesk desk = Check.deskOf("(a b) 1 2");
        desk.put(0x6161616161616161L, 8);
        desk.write(1);
        int[] due = {-1, -1, 8, 7, 3, 1, -1, -1};
        for (int i = 0; i < due.length; i++) {
            Check.due("count(" + (i - 2) + ")", desk.count(i - 2), due[i]);
        }
        for (int what : FAR) {
            Check.due("count(" + what + ")", desk.count(what), -1);
        }
    }
}
