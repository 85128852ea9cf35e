import java.nio.charset.StandardCharsets;
import java.util.Random;

/** Runs of calls, made from fixed seeds, answered by a desk and by the model alike. */
public final class ModelTest {
    private static final String[] PIECES = {
        "(", "(", ")", ")", "'", ".", " . ", " ", " ", "\n", ";", "; x\n", "a", "b", "quote", "quote ", "1", "-", "-0",
        "007", "\"", "\"\"", "\"a\"", "\"\\\"\"", "\\", "()", "( )", "'a", "(a . b)", "(quote a)", "A", "\t", "\u00ff",
        "abcdefghijkl", "123456789", "-999999999", "+", "<=?", "\"12345678901234567890\"", "\"\\\\\\\"\""
    };

    private final Random random;
    private final DatumDesk desk = new DatumDesk();
    private final Model model = new Model();
    private int calls = 0;

    private ModelTest(long seed) {
        random = new Random(seed);
    }

    public static void main(String[] args) {
        for (long seed = 0; seed < 6000; seed++) {
            new ModelTest(seed).run();
        }
        Check.finish();
    }

    private void run() {
        while (calls < 350) {
            put(text());
            if (random.nextInt(8) == 0) {
                due("put of 9", desk.put(1, 9) ? 1 : 0, model.put(1, 9) ? 1 : 0);
            }
            due("count(0)", desk.count(0), model.count(0));
            due("read()", desk.read(), model.read());
            due("place()", desk.place(), model.place());
            for (int what = -1; what < 5; what++) {
                due("count(" + what + ")", desk.count(what), model.count(what));
            }
            int asks = random.nextInt(60);
            for (int i = 0; i < asks && calls < 500; i++) {
                ask();
            }
        }
        // What an object answers beyond its 512th call is free.
        Check.due("calls are at most 512", calls <= 512, true);
    }

    private void due(String call, long got, long want) {
        calls++;
        Check.due(call, got, want);
    }

    private void put(String text) {
        byte[] bytes = text.getBytes(StandardCharsets.ISO_8859_1);
        for (int from = 0; from < bytes.length; ) {
            int n = Math.min(random.nextInt(4) == 0 ? 1 + random.nextInt(8) : 8, bytes.length - from);
            long v = random.nextLong();
            for (int i = 0; i < n; i++) {
                v = v << 8 | bytes[from + i] & 255;
            }
            due("put of " + n, desk.put(v, n) ? 1 : 0, model.put(v, n) ? 1 : 0);
            from += n;
        }
    }

    private String text() {
        StringBuilder made = new StringBuilder();
        int sort = random.nextInt(6);
        int length = random.nextInt(random.nextInt(3) == 0 ? 420 : 60);
        while (made.length() < length) {
            if (sort == 0) {
                made.append(PIECES[random.nextInt(PIECES.length)]);
            } else if (sort == 1) {
                made.append("(('a b. ".charAt(random.nextInt(8)));
            } else {
                appendDatum(made, sort == 2 ? 14 : 5);
            }
        }
        if (random.nextInt(4) == 0 && made.length() > 0) {
            int i = random.nextInt(made.length());
            made.replace(i, i + 1, PIECES[random.nextInt(PIECES.length)]);
        }
        return made.substring(0, Math.min(made.length(), 420));
    }

    private void appendDatum(StringBuilder made, int depth) {
        int sort = random.nextInt(depth > 0 ? 12 : 5);
        if (sort < 5) {
            String[] atoms = {"a", "quote", "-012", "\"a\\\\b\"", "()"};
            made.append(made.length() > 0 && Character.isLetterOrDigit(made.charAt(made.length() - 1)) ? " " : "");
            made.append(atoms[sort]);
            return;
        }
        if (sort < 7) {
            made.append('\'');
            appendDatum(made, depth - 1);
            return;
        }
        made.append('(');
        if (sort == 7) {
            made.append("quote ");
        }
        int parts = random.nextInt(4);
        for (int i = 0; i < parts; i++) {
            appendDatum(made, depth - 1);
        }
        if (parts > 0 && sort > 9) {
            made.append(" . ");
            appendDatum(made, depth - 1);
        }
        made.append(')');
    }

    private void ask() {
        int a = random.nextInt(Math.max(1, model.count(1)) + 2) - 1;
        int b = random.nextInt(Math.max(1, model.count(1)) + 2) - 1;
        int k = random.nextInt(24) - 2;
        switch (random.nextInt(8)) {
            case 0:
                due("datum(" + a + ")", desk.datum(a), model.datum(a));
                break;
            case 1:
                due("kind(" + a + ")", desk.kind(a), model.kind(a));
                break;
            case 2:
                due("value(" + a + ")", desk.value(a), model.value(a));
                break;
            case 3:
                due("byteAt(" + a + ", " + k + ")", desk.byteAt(a, k), model.byteAt(a, k));
                break;
            case 4:
                due("part(" + a + ", " + k % 3 + ")", desk.part(a, k % 3), model.part(a, k % 3));
                break;
            case 5:
                due("like(" + a + ", " + b + ")", desk.like(a, b) ? 1 : 0, model.like(a, b) ? 1 : 0);
                break;
            case 6:
                due("write(" + a + ")", desk.write(a) ? 1 : 0, model.write(a) ? 1 : 0);
                due("count(3)", desk.count(3), model.count(3));
                break;
            default:
                due("fetch()", desk.fetch(), model.fetch());
                break;
        }
    }
}
