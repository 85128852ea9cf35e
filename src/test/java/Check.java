import java.nio.charset.StandardCharsets;

/** What the tests have in common: comparing answers, and texts in and out of a desk. */
final class Check {
    private static int checks = 0;
    private static int wrong = 0;

    private Check() {
    }

    static void due(String call, long got, long want) {
        checks++;
        if (got != want) {
            wrong++;
            System.out.println(call + " answered " + got + ", due is " + want);
        }
    }

    static void due(String call, boolean got, boolean want) {
        due(call, got ? 1 : 0, want ? 1 : 0);
    }

    static void due(String call, String got, String want) {
        checks++;
        if (!got.equals(want)) {
            wrong++;
            System.out.println(call + " answered <" + got + ">, due is <" + want + ">");
        }
    }

    static void finish() {
        System.out.println(checks + " answers, " + wrong + " not as due");
        if (wrong != 0 || checks == 0) {
            System.exit(1);
        }
    }

    /** Puts a text in as few calls as it needs; the answer of the last one. */
    static boolean put(DatumDesk desk, String text) {
        byte[] bytes = text.getBytes(StandardCharsets.ISO_8859_1);
        boolean answer = true;
        for (int from = 0; from < bytes.length; from += 8) {
            int n = Math.min(8, bytes.length - from);
            long v = 0;
            for (int i = 0; i < n; i++) {
                v = v << 8 | bytes[from + i] & 255;
            }
            answer = desk.put(v, n);
        }
        return answer;
    }

    static DatumDesk deskOf(String text) {
        DatumDesk desk = new DatumDesk();
        put(desk, text);
        desk.read();
        return desk;
    }

    /** All that waits, taken with fetch; the form of every answer is tested on the way. */
    static String fetchAll(DatumDesk desk) {
        StringBuilder all = new StringBuilder();
        for (int i = 0; i < 100; i++) {
            int waiting = desk.count(3);
            long v = desk.fetch();
            int n = (int) (v >>> 56);
            due("bytes in fetch()", n, Math.min(7, waiting));
            due("count(3) behind fetch()", desk.count(3), waiting - n);
            if (n == 0) {
                due("fetch() of nothing", v, 0);
                return all.toString();
            }
            for (int k = 0; k < 7; k++) {
                int b = (int) (v >>> (48 - 8 * k)) & 255;
                if (k < n) {
                    all.append((char) b);
                } else {
                    due("a byte of fetch() behind the last", b, 0);
                }
            }
        }
        return all.toString();
    }

    static String written(DatumDesk desk, int node) {
        fetchAll(desk);
        due("write(" + node + ")", desk.write(node), true);
        return fetchAll(desk);
    }

    static String bytesOf(DatumDesk desk, int node) {
        StringBuilder all = new StringBuilder();
        int n = desk.value(node);
        due("byteAt(" + node + ", -1)", desk.byteAt(node, -1), -1);
        due("byteAt(" + node + ", " + n + ")", desk.byteAt(node, n), -1);
        for (int k = 0; k < n; k++) {
            all.append((char) desk.byteAt(node, k));
        }
        return all.toString();
    }

    /** What read() answers for a text. */
    static void dueData(String text, int data) {
        DatumDesk desk = new DatumDesk();
        put(desk, text);
        due("read() of <" + text + ">", desk.read(), data);
        due("place() of <" + text + ">", desk.place(), -1);
        due("count(2) of <" + text + ">", desk.count(2), data);
        due("count(0) behind read()", desk.count(0), 0);
    }

    static void dueFault(String text, int place) {
        DatumDesk desk = new DatumDesk();
        put(desk, text);
        due("read() of <" + text + ">", desk.read(), -1);
        due("place() of <" + text + ">", desk.place(), place);
        due("count(0) behind a fault", desk.count(0), 0);
        due("count(1) behind a fault", desk.count(1), 0);
        due("count(2) behind a fault", desk.count(2), 0);
        due("datum(0) behind a fault", desk.datum(0), -1);
        due("kind(0) behind a fault", desk.kind(0), 0);
    }

    /** A node and all in it, with their numbers: as "0:(1:a . 2:())". */
    static String shape(DatumDesk desk, int node) {
        String body;
        switch (desk.kind(node)) {
            case 1:
                body = Integer.toString(desk.value(node));
                break;
            case 2:
                body = bytesOf(desk, node);
                break;
            case 3:
                body = '"' + bytesOf(desk, node) + '"';
                break;
            case 4:
                body = "(" + shape(desk, desk.part(node, 0)) + " . " + shape(desk, desk.part(node, 1)) + ")";
                break;
            case 5:
                body = "()";
                break;
            default:
                body = "none";
                break;
        }
        return node + ":" + body;
    }

    /**
     * All that can be asked of a desk without a change of it: "place, counts | data | nodes".
     * Some seven calls for each node, and an object is good for 512: for small texts.
     */
    static String state(DatumDesk desk) {
        StringBuilder all = new StringBuilder();
        all.append(desk.place());
        for (int what = 0; what < 4; what++) {
            all.append(' ').append(desk.count(what));
        }
        all.append(" |");
        for (int k = 0; k <= desk.count(2); k++) {
            all.append(' ').append(desk.datum(k));
        }
        all.append(" |");
        for (int node = 0; node <= desk.count(1); node++) {
            all.append(' ').append(desk.kind(node)).append('/').append(desk.value(node));
            all.append('/').append(desk.byteAt(node, 0)).append('/').append(desk.byteAt(node, desk.value(node) - 1));
            all.append('/').append(desk.part(node, 0)).append('/').append(desk.part(node, 1));
        }
        return all.toString();
    }
}
