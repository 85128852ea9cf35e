/** Texts as data: numbers, names, strings, pairs and lists, read from bytes and written as bytes again. */
public final class DatumDesk {
    private static final int NONE = -1;

    private static final int TEXT_LIMIT = 400;
    private static final int NODE_LIMIT = 200;
    private static final int OPEN_LIMIT = 15;
    private static final int WAIT_LIMIT = 500;

    private static final int NUMBER_LIMIT = 9;
    private static final int NAME_LIMIT = 12;
    private static final int STRING_LIMIT = 20;
    private static final int PUT_LIMIT = 8;
    private static final int FETCH_LIMIT = 7;

    private static final int NUMBER = 1;
    private static final int NAME = 2;
    private static final int STRING = 3;
    private static final int PAIR = 4;
    private static final int EMPTY = 5;

    // Tokens that are a datum by themselves bear their node's kind; these are the other sorts.
    private static final int OPEN = 6;
    private static final int CLOSE = 7;
    private static final int TICK = 8;
    private static final int DOT = 9;
    private static final int END = 10;
    private static final int NO_TOKEN = 11;

    private static final int[] QUOTE = {'q', 'u', 'o', 't', 'e'};

    private final Text text;
    private final Nodes nodes;
    private final Reader reader;
    private final Waiting waiting;
    private final Writer writer;

    public DatumDesk() {
        text = new Text();
        nodes = new Nodes();
        reader = new Reader(text, nodes);
        waiting = new Waiting();
        writer = new Writer(nodes, waiting);
    }

    public boolean put(long v, int n) {
        if (n < 1 || n > PUT_LIMIT || text.length + n > TEXT_LIMIT) {
            return false;
        }
        for (int i = n - 1; i >= 0; i--) {
            text.append((int) (v >>> (8 * i)) & 255);
        }
        return true;
    }

    public int read() {
        reader.readText();
        text.length = 0;
        return reader.faultPlace == NONE ? nodes.dataCount : NONE;
    }

    public int place() {
        return reader.faultPlace;
    }

    public int datum(int k) {
        return nodes.datumNode(k);
    }

    public int kind(int node) {
        return nodes.kindOf(node);
    }

    public int value(int node) {
        return nodes.amountOf(node);
    }

    public int byteAt(int node, int k) {
        return nodes.byteOf(node, k);
    }

    public int part(int node, int part) {
        if (part == 0) {
            return nodes.headOf(node);
        }
        return part == 1 ? nodes.tailOf(node) : NONE;
    }

    public boolean like(int a, int b) {
        return nodes.has(a) && nodes.has(b) && nodes.alike(a, b, 0);
    }

    public boolean write(int node) {
        if (!nodes.has(node)) {
            return false;
        }
        writer.writeNode(node, 0);
        return true;
    }

    public long fetch() {
        int n = Math.min(waiting.count, FETCH_LIMIT);
        long answer = n;
        for (int i = 0; i < FETCH_LIMIT; i++) {
            answer = answer << 8 | (i < n ? waiting.take() : 0);
        }
        return answer;
    }

    public int count(int what) {
        switch (what) {
            case 0:
                return text.length;
            case 1:
                return nodes.count;
            case 2:
                return nodes.dataCount;
            case 3:
                return waiting.count;
            default:
                return NONE;
        }
    }

    /** The bytes that were put, and where a token among them ends. */
    private static final class Text {
        private final int[] bytes = new int[TEXT_LIMIT];
        private int length = 0;

        private void append(int b) {
            if (length >= 0 && length < TEXT_LIMIT) {
                bytes[length] = b;
                length++;
            }
        }

        /** NONE on either side of the text, so that the scanning below needs no tests of its own. */
        private int at(int place) {
            return place >= 0 && place < length && place < TEXT_LIMIT ? bytes[place] : NONE;
        }

        private int skipBlanks(int from) {
            boolean comment = false;
            int place = from;
            while (place < length) {
                int b = at(place);
                comment = b == ';' || comment && b != 10;
                if (!comment && b != 10 && b != 32) {
                    return place;
                }
                place++;
            }
            return place;
        }

        private int sortAt(int place) {
            int b = at(place);
            switch (b) {
                case NONE:
                    return END;
                case '(':
                    return OPEN;
                case ')':
                    return CLOSE;
                case '\'':
                    return TICK;
                case '.':
                    return DOT;
                case '"':
                    return STRING;
                default:
                    break;
            }
            if (b == '-' || isDigit(b)) {
                return NUMBER;
            }
            return isWordByte(b) ? NAME : NO_TOKEN;
        }

        /** The place behind the token of this sort, NONE if its bytes make no token. */
        private int tokenEnd(int place, int sort) {
            switch (sort) {
                case NUMBER:
                    return numberEnd(place);
                case NAME:
                    return nameEnd(place);
                case STRING:
                    return stringEnd(place);
                case DOT:
                    return isWordByte(at(place - 1)) || isWordByte(at(place + 1)) ? NONE : place + 1;
                case NO_TOKEN:
                    return NONE;
                default:
                    return place + 1;
            }
        }

        private int numberEnd(int place) {
            int first = at(place) == '-' ? place + 1 : place;
            int end = wordEnd(first);
            if (end - first < 1 || end - first > NUMBER_LIMIT) {
                return NONE;
            }
            for (int i = first; i < end; i++) {
                if (!isDigit(at(i))) {
                    return NONE;
                }
            }
            return end;
        }

        private int nameEnd(int place) {
            int end = wordEnd(place);
            return end - place <= NAME_LIMIT ? end : NONE;
        }

        private int wordEnd(int from) {
            int place = from;
            while (place < length && isWordByte(at(place))) {
                place++;
            }
            return place;
        }

        private int stringEnd(int quoteMark) {
            int place = quoteMark + 1;
            for (int i = 0; i <= STRING_LIMIT; i++) {
                int b = at(place);
                if (b == '"') {
                    return place + 1;
                }
                if (b == '\\') {
                    place++;
                    b = at(place);
                    if (b != '"' && b != '\\') {
                        return NONE;
                    }
                }
                if (b < 32 || b > 126) {
                    return NONE;
                }
                place++;
            }
            return NONE;
        }

        private static boolean isDigit(int b) {
            return b >= '0' && b <= '9';
        }

        private static boolean isWordByte(int b) {
            if (b >= 'a' && b <= 'z' || b >= '0' && b <= '9') {
                return true;
            }
            switch (b) {
                case '-':
                case '+':
                case '*':
                case '/':
                case '=':
                case '<':
                case '>':
                case '!':
                case '?':
                    return true;
                default:
                    return false;
            }
        }
    }

    /** The tokens of a text up to its end or to the first bytes that are none. */
    private static final class Tokens {
        // One more than a text has bytes: the end is a token too.
        private final int[] sorts = new int[TEXT_LIMIT + 1];
        private final int[] starts = new int[TEXT_LIMIT + 1];
        private final int[] ends = new int[TEXT_LIMIT + 1];
        private int count = 0;

        private void scan(Text text) {
            count = 0;
            int place = 0;
            for (int i = 0; i <= TEXT_LIMIT; i++) {
                int start = text.skipBlanks(place);
                int sort = text.sortAt(start);
                int end = text.tokenEnd(start, sort);
                sorts[i] = end == NONE ? NO_TOKEN : sort;
                starts[i] = start;
                ends[i] = end;
                count = i + 1;
                if (end == NONE || sort == END) {
                    return;
                }
                place = end;
            }
        }

        private int sortOf(int i) {
            return i >= 0 && i < count && i < sorts.length ? sorts[i] : NO_TOKEN;
        }

        private int startOf(int i) {
            return i >= 0 && i < count && i < starts.length ? starts[i] : NONE;
        }

        private int endOf(int i) {
            return i >= 0 && i < count && i < ends.length ? ends[i] : NONE;
        }
    }

    /** The nodes of the last text, and which of them are its data. */
    private static final class Nodes {
        private final int[] kinds = new int[NODE_LIMIT];
        private final int[] amounts = new int[NODE_LIMIT];
        private final int[] starts = new int[NODE_LIMIT];
        private final int[] heads = new int[NODE_LIMIT];
        private final int[] tails = new int[NODE_LIMIT];
        private int count = 0;

        private final int[] data = new int[NODE_LIMIT];
        private int dataCount = 0;

        // The bytes of names and strings; the name quote, which ' brings without bytes
        // of its own in the text, stands ahead of all of them and is used again and again.
        private final int[] letters = new int[QUOTE.length + TEXT_LIMIT];
        private int letterCount = QUOTE.length;

        private Nodes() {
            System.arraycopy(QUOTE, 0, letters, 0, QUOTE.length);
        }

        private void clear() {
            count = 0;
            dataCount = 0;
            letterCount = QUOTE.length;
        }

        private boolean has(int node) {
            return node >= 0 && node < count && node < NODE_LIMIT;
        }

        private boolean isOf(int node, int kind) {
            return node >= 0 && node < count && node < NODE_LIMIT && kinds[node] == kind;
        }

        /** A new node, NONE if there are too many. */
        private int add(int kind) {
            if (count < 0 || count >= NODE_LIMIT) {
                return NONE;
            }
            int node = count;
            kinds[node] = kind;
            amounts[node] = 0;
            starts[node] = letterCount;
            heads[node] = NONE;
            tails[node] = NONE;
            count++;
            return node;
        }

        private void addDatum(int node) {
            if (dataCount >= 0 && dataCount < NODE_LIMIT) {
                data[dataCount] = node;
                dataCount++;
            }
        }

        private void addLetter(int node, int b) {
            if (has(node) && letterCount >= 0 && letterCount < letters.length) {
                letters[letterCount] = b;
                letterCount++;
                amounts[node]++;
            }
        }

        private void nameQuote(int node) {
            if (has(node)) {
                starts[node] = 0;
                amounts[node] = QUOTE.length;
            }
        }

        private void setAmount(int node, int amount) {
            if (has(node)) {
                amounts[node] = amount;
            }
        }

        private void setHead(int node, int head) {
            if (has(node)) {
                heads[node] = head;
            }
        }

        private void setTail(int node, int tail) {
            if (has(node)) {
                tails[node] = tail;
            }
        }

        private int datumNode(int k) {
            return k >= 0 && k < dataCount && k < NODE_LIMIT ? data[k] : NONE;
        }

        private int kindOf(int node) {
            return has(node) ? kinds[node] : 0;
        }

        private int amountOf(int node) {
            return has(node) ? amounts[node] : 0;
        }

        private int byteOf(int node, int k) {
            if (!isOf(node, NAME) && !isOf(node, STRING) || k < 0 || k >= amounts[node]) {
                return NONE;
            }
            int i = starts[node] + k;
            return i >= 0 && i < letters.length ? letters[i] : NONE;
        }

        private int headOf(int node) {
            return isOf(node, PAIR) ? heads[node] : NONE;
        }

        private int tailOf(int node) {
            return isOf(node, PAIR) ? tails[node] : NONE;
        }

        /** Whether two nodes are alike; only heads go deeper, and no deeper than brackets do. */
        private boolean alike(int a, int b, int depth) {
            if (depth > OPEN_LIMIT) {
                return false;
            }
            int one = a;
            int other = b;
            for (int i = 0; i < NODE_LIMIT; i++) {
                if (!isOf(one, PAIR) || !isOf(other, PAIR)) {
                    return kindOf(one) == kindOf(other) && sameContent(one, other);
                }
                if (!alike(heads[one], heads[other], depth + 1)) {
                    return false;
                }
                one = tails[one];
                other = tails[other];
            }
            return false;
        }

        private boolean sameContent(int one, int other) {
            int amount = amountOf(one);
            if (amount != amountOf(other)) {
                return false;
            }
            if (isOf(one, NUMBER)) {
                return true;
            }
            for (int k = 0; k < amount; k++) {
                if (byteOf(one, k) != byteOf(other, k)) {
                    return false;
                }
            }
            return true;
        }

        /** What stands behind ' if the node is a list of the name quote and one datum, else NONE. */
        private int quotedIn(int node) {
            int second = tailOf(node);
            if (!isQuoteName(headOf(node)) || !isOf(tailOf(second), EMPTY)) {
                return NONE;
            }
            return headOf(second);
        }

        private boolean isQuoteName(int node) {
            if (!isOf(node, NAME) || amounts[node] != QUOTE.length) {
                return false;
            }
            for (int k = 0; k < QUOTE.length; k++) {
                if (byteOf(node, k) != QUOTE[k]) {
                    return false;
                }
            }
            return true;
        }
    }

    /**
     * Makes nodes of a text. A method that reads finds the cursor at the first token of what it
     * reads and leaves it at the last one, so that a fault's place is always the cursor's token.
     */
    private static final class Reader {
        private final Text text;
        private final Nodes nodes;
        private final Tokens tokens = new Tokens();
        private int cursor = 0;
        private int faultPlace = NONE;

        private Reader(Text text, Nodes nodes) {
            this.text = text;
            this.nodes = nodes;
        }

        private void readText() {
            nodes.clear();
            tokens.scan(text);
            faultPlace = NONE;
            cursor = 0;
            for (int i = 0; i <= TEXT_LIMIT && tokens.sortOf(cursor) != END; i++) {
                int node = readDatum(0);
                if (node == NONE) {
                    nodes.clear();
                    return;
                }
                nodes.addDatum(node);
                cursor++;
            }
        }

        private int readDatum(int open) {
            switch (tokens.sortOf(cursor)) {
                case NUMBER:
                    return readNumber();
                case NAME:
                    return readName();
                case STRING:
                    return readString();
                case TICK:
                    return readQuoted(open);
                case OPEN:
                    return readList(open);
                default:
                    return fault();
            }
        }

        private int readNumber() {
            int end = tokens.endOf(cursor);
            int start = tokens.startOf(cursor);
            boolean negative = text.at(start) == '-';
            int amount = 0;
            for (int i = negative ? start + 1 : start; i < end; i++) {
                amount = amount * 10 + (text.at(i) - '0');
            }
            int node = add(NUMBER);
            nodes.setAmount(node, negative ? -amount : amount);
            return node;
        }

        private int readName() {
            int end = tokens.endOf(cursor);
            int node = add(NAME);
            for (int i = tokens.startOf(cursor); i < end; i++) {
                nodes.addLetter(node, text.at(i));
            }
            return node;
        }

        private int readString() {
            int closing = tokens.endOf(cursor) - 1;
            int node = add(STRING);
            for (int i = tokens.startOf(cursor) + 1; i < closing; i++) {
                if (text.at(i) == '\\') {
                    i++;
                }
                nodes.addLetter(node, text.at(i));
            }
            return node;
        }

        private int readQuoted(int open) {
            if (open >= OPEN_LIMIT) {
                return fault();
            }
            int first = add(PAIR);
            int name = add(NAME);
            int second = add(PAIR);
            if (second == NONE) {
                return NONE;
            }
            nodes.nameQuote(name);
            nodes.setHead(first, name);
            nodes.setTail(first, second);
            cursor++;
            int quoted = readDatum(open + 1);
            if (quoted == NONE) {
                return NONE;
            }
            nodes.setHead(second, quoted);
            int end = add(EMPTY);
            nodes.setTail(second, end);
            return end == NONE ? NONE : first;
        }

        private int readList(int open) {
            if (open >= OPEN_LIMIT) {
                return fault();
            }
            // The document brings a first pair with its bracket, but an empty list with its
            // bracket's end: this tells at which of both one node too many is a fault.
            if (tokens.sortOf(cursor + 1) == CLOSE) {
                cursor++;
                return add(EMPTY);
            }
            int first = add(PAIR);
            int last = first;
            cursor++;
            for (int i = 0; i < NODE_LIMIT && last != NONE; i++) {
                int head = readDatum(open + 1);
                if (head == NONE) {
                    return NONE;
                }
                nodes.setHead(last, head);
                cursor++;
                int sort = tokens.sortOf(cursor);
                if (sort == CLOSE || sort == DOT) {
                    int tail = sort == CLOSE ? add(EMPTY) : readDotted(open);
                    nodes.setTail(last, tail);
                    return tail == NONE ? NONE : first;
                }
                int next = add(PAIR);
                nodes.setTail(last, next);
                last = next;
            }
            return NONE;
        }

        private int readDotted(int open) {
            cursor++;
            int tail = readDatum(open + 1);
            if (tail == NONE) {
                return NONE;
            }
            cursor++;
            return tokens.sortOf(cursor) == CLOSE ? tail : fault();
        }

        private int add(int kind) {
            int node = nodes.add(kind);
            return node == NONE ? fault() : node;
        }

        private int fault() {
            faultPlace = tokens.startOf(cursor);
            return NONE;
        }
    }

    /** The bytes that were written and not fetched yet, in a ring. */
    private static final class Waiting {
        private final int[] bytes = new int[WAIT_LIMIT];
        private int first = 0;
        private int count = 0;

        private void append(int b) {
            if (count >= WAIT_LIMIT) {
                return;
            }
            int i = first + count < WAIT_LIMIT ? first + count : first + count - WAIT_LIMIT;
            if (i >= 0 && i < WAIT_LIMIT) {
                bytes[i] = b;
                count++;
            }
        }

        private int take() {
            if (count <= 0 || first < 0 || first >= WAIT_LIMIT) {
                return 0;
            }
            int b = bytes[first];
            first = first + 1 < WAIT_LIMIT ? first + 1 : 0;
            count--;
            return b;
        }
    }

    /** Writes nodes behind what waits. */
    private static final class Writer {
        private static final int HIGHEST_POWER = 100000000;

        private final Nodes nodes;
        private final Waiting waiting;

        private Writer(Nodes nodes, Waiting waiting) {
            this.nodes = nodes;
            this.waiting = waiting;
        }

        /** Only heads and what is quoted go deeper, and no deeper than brackets do. */
        private void writeNode(int node, int depth) {
            if (depth > OPEN_LIMIT) {
                return;
            }
            switch (nodes.kindOf(node)) {
                case NUMBER:
                    writeNumber(nodes.amountOf(node));
                    break;
                case NAME:
                    writeName(node);
                    break;
                case STRING:
                    writeString(node);
                    break;
                case PAIR:
                    writePair(node, depth);
                    break;
                case EMPTY:
                    waiting.append('(');
                    waiting.append(')');
                    break;
                default:
                    break;
            }
        }

        private void writeNumber(int amount) {
            if (amount < 0) {
                waiting.append('-');
            }
            int rest = amount < 0 ? -amount : amount;
            for (int power = HIGHEST_POWER; power > 0; power /= 10) {
                if (rest >= power || power == 1) {
                    waiting.append('0' + rest / power % 10);
                }
            }
        }

        private void writeName(int node) {
            int length = nodes.amountOf(node);
            for (int k = 0; k < length; k++) {
                waiting.append(nodes.byteOf(node, k));
            }
        }

        private void writeString(int node) {
            int length = nodes.amountOf(node);
            waiting.append('"');
            for (int k = 0; k < length; k++) {
                int b = nodes.byteOf(node, k);
                if (b == '"' || b == '\\') {
                    waiting.append('\\');
                }
                waiting.append(b);
            }
            waiting.append('"');
        }

        private void writePair(int node, int depth) {
            int quoted = nodes.quotedIn(node);
            if (quoted != NONE) {
                waiting.append('\'');
                writeNode(quoted, depth + 1);
                return;
            }
            waiting.append('(');
            writeNode(nodes.headOf(node), depth + 1);
            int rest = nodes.tailOf(node);
            for (int i = 0; i < NODE_LIMIT && nodes.kindOf(rest) == PAIR; i++) {
                waiting.append(' ');
                writeNode(nodes.headOf(rest), depth + 1);
                rest = nodes.tailOf(rest);
            }
            if (nodes.kindOf(rest) != EMPTY) {
                waiting.append(' ');
                waiting.append('.');
                waiting.append(' ');
                writeNode(rest, depth + 1);
            }
            waiting.append(')');
        }
    }
}
