import java.util.ArrayList;
import java.util.List;
import java.util.regex.Matcher;
import java.util.regex.Pattern;

/**
 * The document a second time, by other means: tokens by patterns, a tree of objects, and limits that
 * are looked at only when the whole text has been gone through.
 */
final class Model {
    private static final String WORD = "[a-z+*/=<>!?0-9-]";
    private static final Pattern BLANKS = Pattern.compile("(?:[\\n ]|;[^\\n]*)*");
    private static final Pattern TOKEN = Pattern.compile(
            "[()']"
            + "|(?<!" + WORD + ")\\.(?!" + WORD + ")"
            + "|-?[0-9]{1,9}(?!" + WORD + ")"
            + "|[a-z+*/=<>!?]" + WORD + "{0,11}+(?!" + WORD + ")"
            + "|\"(?:[ -~&&[^\"\\\\]]|\\\\[\"\\\\]){0,20}+\"");

    static final class Node {
        int number = -1;
        final int kind;
        int value;
        String bytes = "";
        Node head;
        Node tail;

        Node(int kind) {
            this.kind = kind;
        }
    }

    private static final class Fault extends RuntimeException {
        private static final long serialVersionUID = 1;
        final int place;

        Fault(int place) {
            super("fault at " + place, null, false, false);
            this.place = place;
        }
    }

    private final StringBuilder text = new StringBuilder();
    private final StringBuilder waiting = new StringBuilder();
    private List<Node> nodes = new ArrayList<>();
    private List<Node> data = new ArrayList<>();
    private int place = -1;

    // While a text is read: where in it, and the place of the token that brought each node.
    private int at;
    private final List<Integer> broughtAt = new ArrayList<>();

    boolean put(long v, int n) {
        if (n < 1 || n > 8 || text.length() + n > 400) {
            return false;
        }
        for (int i = n; i > 0; i--) {
            text.append((char) (v >> (8 * i - 8) & 0xff));
        }
        return true;
    }

    int read() {
        nodes = new ArrayList<>();
        data = new ArrayList<>();
        broughtAt.clear();
        at = 0;
        place = -1;
        try {
            while (peek() != null) {
                data.add(readDatum(0));
            }
        } catch (Fault f) {
            place = f.place;
        }
        if (nodes.size() > 200 && (place < 0 || broughtAt.get(200) < place)) {
            place = broughtAt.get(200);
        }
        text.setLength(0);
        if (place >= 0) {
            nodes.clear();
            data.clear();
            return -1;
        }
        return data.size();
    }

    /** The next token, null at the end; its place is then in at. */
    private String peek() {
        Matcher blanks = BLANKS.matcher(text).region(at, text.length());
        if (blanks.lookingAt()) {
            at = blanks.end();
        }
        if (at == text.length()) {
            return null;
        }
        Matcher token = TOKEN.matcher(text).region(at, text.length()).useTransparentBounds(true);
        if (!token.lookingAt()) {
            throw new Fault(at);
        }
        return token.group();
    }

    private Node bring(int kind, int where) {
        Node node = new Node(kind);
        node.number = nodes.size();
        nodes.add(node);
        broughtAt.add(where);
        return node;
    }

    private int lastPlace;

    private Node readDatum(int open) {
        String token = peek();
        int where = at;
        if (token == null || ").".contains(token)) {
            throw new Fault(where);
        }
        at += token.length();
        lastPlace = where;
        char c = token.charAt(0);
        if (c == '\'' || c == '(') {
            if (open == 15) {
                throw new Fault(where);
            }
            return c == '(' ? list(where, open + 1) : quoted(where, open + 1);
        }
        if (c == '"') {
            Node string = bring(3, where);
            string.bytes = token.substring(1, token.length() - 1).replaceAll("\\\\(.)", "$1");
            string.value = string.bytes.length();
            return string;
        }
        if (token.matches("-?[0-9]+")) {
            Node number = bring(1, where);
            number.value = Integer.parseInt(token);
            return number;
        }
        return name(token, where);
    }

    private Node name(String bytes, int where) {
        Node name = bring(2, where);
        name.bytes = bytes;
        name.value = bytes.length();
        return name;
    }

    private Node quoted(int where, int open) {
        Node pair = bring(4, where);
        pair.head = name("quote", where);
        pair.tail = bring(4, where);
        pair.tail.head = readDatum(open);
        pair.tail.tail = bring(5, lastPlace);
        return pair;
    }

    private Node list(int where, int open) {
        Node before = null;
        Node first = null;
        while (true) {
            String token;
            try {
                token = peek();
            } catch (Fault f) {
                if (first == null) {
                    bring(4, where);
                }
                throw f;
            }
            if (")".equals(token)) {
                Node end = bring(5, at);
                lastPlace = at++;
                if (before == null) {
                    return end;
                }
                before.tail = end;
                return first;
            }
            if (".".equals(token) && before != null) {
                at++;
                before.tail = readDatum(open);
                if (!")".equals(peek())) {
                    throw new Fault(at);
                }
                lastPlace = at++;
                return first;
            }
            Node pair = bring(4, first == null ? where : at);
            if (before == null) {
                first = pair;
            } else {
                before.tail = pair;
            }
            before = pair;
            pair.head = readDatum(open);
        }
    }

    int place() {
        return place;
    }

    int datum(int k) {
        return k >= 0 && k < data.size() ? data.get(k).number : -1;
    }

    private Node node(int node) {
        return node >= 0 && node < nodes.size() ? nodes.get(node) : null;
    }

    int kind(int node) {
        return node(node) == null ? 0 : node(node).kind;
    }

    int value(int node) {
        return node(node) == null ? 0 : node(node).value;
    }

    int byteAt(int node, int k) {
        String bytes = node(node) == null ? "" : node(node).bytes;
        return k >= 0 && k < bytes.length() ? bytes.charAt(k) : -1;
    }

    int part(int node, int part) {
        if (kind(node) != 4 || part != 0 && part != 1) {
            return -1;
        }
        return (part == 0 ? node(node).head : node(node).tail).number;
    }

    boolean like(int a, int b) {
        return node(a) != null && node(b) != null && full(node(a)).equals(full(node(b)));
    }

    /** A text that only nodes that are alike have in common. */
    private static String full(Node node) {
        if (node.kind == 4) {
            return "<" + full(node.head) + full(node.tail) + ">";
        }
        return node.kind + ":" + node.value + ":" + node.bytes + ";";
    }

    boolean write(int node) {
        if (node(node) == null) {
            return false;
        }
        waiting.append(written(node(node)));
        waiting.setLength(Math.min(500, waiting.length()));
        return true;
    }

    private static String written(Node node) {
        switch (node.kind) {
            case 1:
                return Integer.toString(node.value);
            case 2:
                return node.bytes;
            case 3:
                return '"' + node.bytes.replaceAll("[\"\\\\]", "\\\\$0") + '"';
            case 5:
                return "()";
            default:
                break;
        }
        List<String> parts = new ArrayList<>();
        Node rest = node;
        for (; rest.kind == 4; rest = rest.tail) {
            parts.add(written(rest.head));
        }
        if (rest.kind != 5) {
            return "(" + String.join(" ", parts) + " . " + written(rest) + ")";
        }
        if (parts.size() == 2 && parts.get(0).equals("quote")) {
            return "'" + parts.get(1);
        }
        return "(" + String.join(" ", parts) + ")";
    }

    long fetch() {
        int n = Math.min(7, waiting.length());
        long answer = (long) n << 56;
        for (int i = 0; i < n; i++) {
            answer |= (long) waiting.charAt(i) << (48 - 8 * i);
        }
        waiting.delete(0, n);
        return answer;
    }

    int count(int what) {
        int[] counts = {text.length(), nodes.size(), data.size(), waiting.length()};
        return what >= 0 && what < 4 ? counts[what] : -1;
    }
}
