import java.util.ArrayList;
import java.util.HashMap;
import java.util.List;
import java.util.Map;
import java.util.regex.Matcher;
import java.util.regex.Pattern;

/**
 * Every text of up to five bytes out of twelve, and of up to seven tokens out of five, against the document's
 * own words and not against a reader like the class's: tokens are patterns, the grammar is replacements, and
 * a fault is where no text goes on.
 */
public final class EveryTextTest {
    private static final String[] BYTES = {"(", ")", "'", ".", "a", "7", "-", "\"", "\\", ";", " ", "\n"};
    // The name quote is the one datum by which a list may be written in another way.
    private static final String[] TOKENS = {"( ", ") ", "' ", ". ", "quote "};

    private static final String OF_A_WORD = "[a-z0-9+*/=<>!?-]";
    private static final Pattern BETWEEN = Pattern.compile("(?:[\n ]|;[^\n]*)*");
    private static final Pattern TOKEN = Pattern.compile(
            "[()']"
            + "|(?<!" + OF_A_WORD + ")\\.(?!" + OF_A_WORD + ")"
            + "|-?[0-9]{1,9}(?!" + OF_A_WORD + ")"
            + "|[a-z+*/=<>!?]" + OF_A_WORD + "{0,11}(?!" + OF_A_WORD + ")"
            + "|\"(?:[ -~&&[^\"\\\\]]|\\\\[\"\\\\]){0,20}\"");

    private static final Map<String, Boolean> WHOLE = new HashMap<>();
    private static final Map<String, Boolean> GOES_ON = new HashMap<>();

    private final String text;
    private final StringBuilder sorts = new StringBuilder();
    private final List<Integer> places = new ArrayList<>();
    private int noToken = -1;

    private EveryTextTest(String text) {
        this.text = text;
    }

    public static void main(String[] args) {
        grow("", BYTES, 5);
        grow("", TOKENS, 7);
        Check.finish();
    }

    private static void grow(String text, String[] pieces, int more) {
        new EveryTextTest(text).check();
        if (more == 0) {
            return;
        }
        for (String piece : pieces) {
            grow(text + piece, pieces, more - 1);
        }
    }

    private void check() {
        split();
        int fault = faultPlace();
        DatumDesk desk = new DatumDesk();
        Check.put(desk, text);
        int data = desk.read();
        Check.due("place() of <" + text + ">", desk.place(), fault);
        if (fault != -1) {
            Check.due("read() of <" + text + ">", data, -1);
            Check.due("count(1) of <" + text + ">", desk.count(1), 0);
            return;
        }
        Check.due("read() of <" + text + ">", data, reduced(sorts.toString()).length());
        writtenAndReadAgain(desk, data);
    }

    /** The text's tokens, one letter each (d for a number, name or string), up to the first that is none. */
    private void split() {
        Matcher between = BETWEEN.matcher(text);
        Matcher token = TOKEN.matcher(text);
        token.useTransparentBounds(true);
        int at = 0;
        while (true) {
            between.region(at, text.length());
            at = between.lookingAt() ? between.end() : at;
            if (at == text.length()) {
                return;
            }
            token.region(at, text.length());
            if (!token.lookingAt()) {
                noToken = at;
                return;
            }
            char first = text.charAt(at);
            sorts.append("()'.".indexOf(first) < 0 ? 'd' : first);
            places.add(at);
            at = token.end();
        }
    }

    private int faultPlace() {
        for (int n = 1; n <= sorts.length(); n++) {
            if (!goesOn(sorts.substring(0, n))) {
                return places.get(n - 1);
            }
        }
        if (noToken != -1) {
            return noToken;
        }
        return isWhole(sorts.toString()) ? -1 : text.length();
    }

    /** Whether some text begins so: then a datum or none, and enough ends of brackets, make it one. */
    private static boolean goesOn(String sorts) {
        return GOES_ON.computeIfAbsent(sorts, s -> {
            for (int ends = 0; ends <= s.length(); ends++) {
                if (isWhole(s + ")".repeat(ends)) || isWhole(s + "d" + ")".repeat(ends))) {
                    return true;
                }
            }
            return false;
        });
    }

    private static boolean isWhole(String sorts) {
        return WHOLE.computeIfAbsent(sorts, s -> reduced(s).matches("d*"));
    }

    /** Each datum that holds others is replaced by one that does not, until there is none. */
    private static String reduced(String sorts) {
        String now = sorts;
        String before;
        do {
            before = now;
            now = before.replaceFirst("'d|\\(d*\\)|\\(dd*\\.d\\)", "d");
        } while (!now.equals(before));
        return now;
    }

    /** What is written of all data has the nodes of what was read. */
    private void writtenAndReadAgain(DatumDesk desk, int data) {
        StringBuilder all = new StringBuilder();
        StringBuilder shapes = new StringBuilder();
        for (int k = 0; k < data; k++) {
            all.append(Check.written(desk, desk.datum(k))).append(' ');
            shapes.append(Check.shape(desk, desk.datum(k))).append(' ');
        }
        DatumDesk again = Check.deskOf(all.toString());
        StringBuilder shapesAgain = new StringBuilder();
        for (int k = 0; k < data; k++) {
            shapesAgain.append(Check.shape(again, again.datum(k))).append(' ');
        }
        Check.due("what is written of <" + text + ">", shapesAgain.toString(), shapes.toString());
        Check.due("nodes of <" + all + ">", again.count(1), desk.count(1));
    }
}
