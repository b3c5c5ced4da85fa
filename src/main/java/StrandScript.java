import java.util.Arrays;

/**
 * A small language of tables: a text is fed, read, checked and run with fuel in a heap of cells.
 * Nothing here recurses at run time: texts become flat instructions, calls become frames of one
 * stack, and all memory is in rows that are made once and used again.
 */
public final class StrandScript {

    // What a value is. Handles of objects stand beside these; a KEPT stands in stack slots only.
    private static final int NIL = 0;
    private static final int FALSE = 1;
    private static final int TRUE = 2;
    private static final int NUMBER = 3;
    private static final int STRING = 4;
    private static final int TABLE = 5;
    private static final int PROCEDURE = 6;
    private static final int STRAND = 7;
    private static final int WRAPPER = 8;
    private static final int BUILT_IN = 9;
    private static final int KEPT = 10;

    // Faults of a run.
    private static final int SYNTAX = 1;
    private static final int RULE = 2;
    private static final int LIMIT = 3;
    private static final int NO_FUEL = 4;
    private static final int ERROR = 5;
    private static final int MEMORY = 6;

    // The document's limits.
    private static final int MOST_TEXT = 3000;
    private static final int MOST_OUTPUT = 4000;
    private static final int MOST_FUEL = 20000;
    private static final int LEAST_HEAP = 300;
    private static final int MOST_HEAP = 8000;
    private static final int USUAL_HEAP = 2000;
    private static final int MOST_NAME = 20;
    private static final int MOST_LITERAL = 200;
    private static final int MOST_STRING = 1000;
    private static final int MOST_VARIABLES = 40;
    private static final int MOST_KEEPS = 20;
    private static final int MOST_LISTED = 10;
    private static final int MOST_NESTING = 16;
    private static final int MOST_VALUES = 40;
    private static final int MOST_CALLS = 60;
    private static final int MOST_STEPS = 10;
    private static final int MOST_WAITING = 10;

    // Cells of the objects.
    private static final int CALL_CELLS = 8;
    private static final int KEY_CELLS = 3;
    private static final int TABLE_CELLS = 4;
    private static final int PROCEDURE_CELLS = 2;
    private static final int KEPT_CELLS = 2;
    private static final int STRAND_CELLS = 10;
    private static final int WRAPPER_CELLS = 3;
    private static final int STRING_CELLS = 2;

    // Tokens: the words stand in the order of Scanner.WORDS.
    private static final int T_END = 0;
    private static final int T_BAD = 1;
    private static final int T_NAME = 2;
    private static final int T_NUMBER = 3;
    private static final int T_STRING = 4;
    private static final int T_AND = 5;
    private static final int T_BREAK = 6;
    private static final int T_DO = 7;
    private static final int T_ELSE = 8;
    private static final int T_ELSEIF = 9;
    private static final int T_ENDS = 10;
    private static final int T_FALSE = 11;
    private static final int T_FOR = 12;
    private static final int T_FUNCTION = 13;
    private static final int T_IF = 14;
    private static final int T_IN = 15;
    private static final int T_LOCAL = 16;
    private static final int T_NIL = 17;
    private static final int T_NOT = 18;
    private static final int T_OR = 19;
    private static final int T_REPEAT = 20;
    private static final int T_RETURN = 21;
    private static final int T_THEN = 22;
    private static final int T_TRUE = 23;
    private static final int T_UNTIL = 24;
    private static final int T_WHILE = 25;
    private static final int T_PLUS = 26;
    private static final int T_MINUS = 27;
    private static final int T_STAR = 28;
    private static final int T_SLASHES = 29;
    private static final int T_PERCENT = 30;
    private static final int T_JOIN = 31;
    private static final int T_DOTS = 32;
    private static final int T_LIKE = 33;
    private static final int T_UNLIKE = 34;
    private static final int T_LESS = 35;
    private static final int T_AT_MOST = 36;
    private static final int T_MORE = 37;
    private static final int T_AT_LEAST = 38;
    private static final int T_SET = 39;
    private static final int T_LENGTH = 40;
    private static final int T_OPEN = 41;
    private static final int T_CLOSE = 42;
    private static final int T_BRACE = 43;
    private static final int T_UNBRACE = 44;
    private static final int T_BRACKET = 45;
    private static final int T_UNBRACKET = 46;
    private static final int T_SEMICOLON = 47;
    private static final int T_COLON = 48;
    private static final int T_COMMA = 49;
    private static final int T_DOT = 50;

    // Instructions that push a value or turn the topmost ones into one.
    private static final int OP_PLAIN = 0;
    private static final int OP_NUMBER = 1;
    private static final int OP_STRING = 2;
    private static final int OP_LOCAL = 3;
    private static final int OP_KEPT = 4;
    private static final int OP_GLOBAL = 5;
    private static final int OP_EXTRA = 6;
    private static final int OP_EXTRAS = 7;
    private static final int OP_TABLE = 8;
    private static final int OP_PROCEDURE = 9;
    private static final int OP_MEMBER = 10;
    private static final int OP_METHOD = 11;
    private static final int OP_SWAP = 12;
    // Instructions that set something.
    private static final int OP_SET_LOCAL = 13;
    private static final int OP_SET_KEPT = 14;
    private static final int OP_SET_GLOBAL = 15;
    private static final int OP_SET_MEMBER = 16;
    private static final int OP_PUT = 17;
    private static final int OP_PUT_KEY = 18;
    private static final int OP_PUT_ALL = 19;
    // Instructions that say where it goes on.
    private static final int OP_FUEL = 20;
    private static final int OP_CUT = 21;
    private static final int OP_ADJUST = 22;
    private static final int OP_JUMP = 23;
    private static final int OP_UNLESS = 24;
    private static final int OP_AND = 25;
    private static final int OP_OR = 26;
    private static final int OP_UNTIL = 27;
    private static final int OP_FOR_CHECK = 28;
    private static final int OP_FOR_TEST = 29;
    private static final int OP_FOR_NEXT = 30;
    private static final int OP_FOR_CALL = 31;
    private static final int OP_FOR_GIVEN = 32;
    private static final int OP_CALL = 33;
    private static final int OP_CALL_METHOD = 34;
    private static final int OP_RETURN = 35;
    // Signs: the first six in the order of the names "__add" .. "__concat".
    private static final int OP_ADD = 36;
    private static final int OP_SUBTRACT = 37;
    private static final int OP_MULTIPLY = 38;
    private static final int OP_DIVIDE = 39;
    private static final int OP_MODULO = 40;
    private static final int OP_JOIN = 41;
    private static final int OP_LESS = 42;
    private static final int OP_AT_MOST = 43;
    private static final int OP_MORE = 44;
    private static final int OP_AT_LEAST = 45;
    private static final int OP_LIKE = 46;
    private static final int OP_UNLIKE = 47;
    private static final int OP_NOT = 48;
    private static final int OP_LENGTH = 49;
    private static final int OP_NEGATE = 50;

    // How many values a call is asked for, or else:
    private static final int WANT_ALL = -1;
    private static final int WANT_TRUE = -2;
    private static final int WANT_FALSE = -3;

    // Built-in ones; each has the number of its name among the built-in strings.
    private static final int BUILT_INS = 32;
    private static final int B_PRINT = 0;
    private static final int B_TYPE = 1;
    private static final int B_TONUMBER = 2;
    private static final int B_RAWGET = 3;
    private static final int B_RAWSET = 4;
    private static final int B_RAWEQUAL = 5;
    private static final int B_RAWLEN = 6;
    private static final int B_SETMETATABLE = 7;
    private static final int B_GETMETATABLE = 8;
    private static final int B_NEXT = 9;
    private static final int B_PAIRS = 10;
    private static final int B_IPAIRS = 11;
    private static final int B_ERROR = 12;
    private static final int B_ASSERT = 13;
    private static final int B_SELECT = 14;
    private static final int B_UNPACK = 15;
    private static final int B_SUB = 16;
    private static final int B_BYTE = 17;
    private static final int B_CHAR = 18;
    private static final int B_REP = 19;
    private static final int B_CONCAT = 20;
    private static final int B_INSERT = 21;
    private static final int B_REMOVE = 22;
    private static final int B_CREATE = 23;
    private static final int B_WRAP = 24;
    private static final int B_STATUS = 25;
    private static final int B_RUNNING = 26;
    private static final int B_COUNT = 27;
    // From here on those that the calls' own class does, as they call, stop or go on.
    private static final int B_TOSTRING = 28;
    private static final int B_PCALL = 29;
    private static final int B_RESUME = 30;
    // The one that ipairs gives, which has no name.
    private static final int B_NEXT_INDEX = 32;

    // The built-in strings, in the order of their numbers below.
    private static final String BUILT_IN_STRINGS = "print|type|tonumber|rawget|rawset|rawequal|rawlen|setmetatable|getmetatable|next|pairs|ipairs|error|assert|select|unpack|sub|byte|char|rep|concat|insert|remove|create|wrap|status|running|count|tostring|pcall|resume|yield|nil|true|false|table|function|strand|boolean|number|string|suspended|normal|dead|#||__index|__newindex|__call|__tostring|__add|__sub|__mul|__div|__mod|__concat|__lt|__le|__eq|__len|__unm|too many values|nil key|no number|step is zero|no table|too deep|division by zero|no string|no order|no length|no call|bad value|no key|assertion failed|too long|dead strand|no strand|";
    private static final int BUILT_IN_STRING_COUNT = 78;
    private static final int S_RUNNING = 26;
    private static final int S_NIL = 32;
    private static final int S_TRUE = 33;
    private static final int S_FALSE = 34;
    private static final int S_TABLE = 35;
    private static final int S_FUNCTION = 36;
    private static final int S_STRAND = 37;
    private static final int S_BOOLEAN = 38;
    private static final int S_NUMBER = 39;
    private static final int S_STRING = 40;
    private static final int S_SUSPENDED = 41;
    private static final int S_NORMAL = 42;
    private static final int S_DEAD = 43;
    private static final int S_HOW_MANY = 44;
    private static final int S_INDEX = 46;
    private static final int S_NEWINDEX = 47;
    private static final int S_CALL = 48;
    private static final int S_TOSTRING = 49;
    private static final int S_ADD = 50;
    private static final int S_LT = 56;
    private static final int S_LE = 57;
    private static final int S_EQ = 58;
    private static final int S_LEN = 59;
    private static final int S_UNM = 60;
    private static final int S_TOO_MANY = 61;
    private static final int S_NIL_KEY = 62;
    private static final int S_NO_NUMBER = 63;
    private static final int S_ZERO_STEP = 64;
    private static final int S_NO_TABLE = 65;
    private static final int S_TOO_DEEP = 66;
    private static final int S_ZERO_DIVISION = 67;
    private static final int S_NO_STRING = 68;
    private static final int S_NO_ORDER = 69;
    private static final int S_NO_LENGTH = 70;
    private static final int S_NO_CALL = 71;
    private static final int S_BAD_VALUE = 72;
    private static final int S_NO_KEY = 73;
    private static final int S_ASSERTION = 74;
    private static final int S_TOO_LONG = 75;
    private static final int S_DEAD_STRAND = 76;
    private static final int S_NO_STRAND = 77;

    private final Output output;
    private final Scanner scanner;
    private final Strings strings;
    private final Heap heap;
    private final Reader reader;
    private final Calls calls;
    private final Machine machine;
    private int lastPlace;
    private int lastFuel;
    private int lastCells;

    public StrandScript(int cells) {
        int limit = cells >= LEAST_HEAP && cells <= MOST_HEAP ? cells : USUAL_HEAP;
        Program program = new Program();
        Stack stack = new Stack(limit);
        Rows rows = new Rows(limit);
        output = new Output();
        strings = new Strings(limit);
        scanner = new Scanner(strings);
        heap = new Heap(limit, rows, strings, stack);
        reader = new Reader(scanner, program, strings);
        calls = new Calls(program, heap, stack, output);
        machine = new Machine(program, calls, heap, new Library(calls, heap, output));
        lastPlace = -1;
        lastFuel = 0;
        lastCells = TABLE_CELLS + KEY_CELLS * BUILT_INS;
    }

    public boolean feed(int a, int b, int c, int d, int e) {
        if (!scanner.hasRoom(20)) {
            return false;
        }
        scanner.append(a);
        scanner.append(b);
        scanner.append(c);
        scanner.append(d);
        scanner.append(e);
        return true;
    }

    public int run(int n, int fuel) {
        if (n < 0 || n > scanner.length || fuel < 0 || fuel > MOST_FUEL) {
            return -1;
        }
        strings.begin();
        heap.begin();
        int fault = reader.read(n);
        scanner.length = 0;
        lastPlace = reader.place;
        lastFuel = fuel;
        lastCells = heap.used;
        if (fault == 0) {
            strings.fix();
            calls.begin(fuel);
            machine.execute();
            calls.end();
            fault = calls.fault;
            lastFuel = calls.fuel;
            lastCells = heap.used;
        }
        return fault;
    }

    public int place() {
        return lastPlace;
    }

    public long fetch() {
        return output.take();
    }

    public int count(int what) {
        switch (what) {
            case 0:
                return lastFuel;
            case 1:
                return lastCells;
            case 2:
                return scanner.length;
            case 3:
                return output.size;
            default:
                return -1;
        }
    }

    /** A power of two that suits a heap's size, and keeps a sweep of a small one short. */
    private static int bucketsFor(int limit) {
        int buckets = 64;
        while (buckets < limit / 4) {
            buckets *= 2;
        }
        return buckets;
    }

    /** The bytes that were written and wait to be fetched. */
    static final class Output {
        private final byte[] ring = new byte[MOST_OUTPUT];
        private int head;
        private int size;

        void write(int character) {
            if (size < MOST_OUTPUT) {
                ring[(head + size) % MOST_OUTPUT] = (byte) character;
                size++;
            }
        }

        void writeAll(byte[] bytes, int length) {
            for (int i = 0; i < length && i < bytes.length; i++) {
                write(bytes[i]);
            }
        }

        long take() {
            int taken = Math.min(size, 7);
            long answer = taken;
            for (int i = 0; i < 7; i++) {
                long next = 0;
                if (i < taken) {
                    next = ring[head] & 255;
                    head = (head + 1) % MOST_OUTPUT;
                }
                answer = answer << 8 | next;
            }
            size -= taken;
            return answer;
        }
    }

    /** The text and its tokens, which are found all at once, up to the first wrong one. */
    static final class Scanner {
        private static final String WORDS = "and|break|do|else|elseif|end|false|for|function|if|in|local|nil|not|or|repeat|return|then|true|until|while|";
        private static final String SINGLE_SIGNS = "+-*%#(){}[];:,";
        private static final int[] SINGLE_TOKENS = {T_PLUS, T_MINUS, T_STAR, T_PERCENT, T_LENGTH, T_OPEN, T_CLOSE, T_BRACE, T_UNBRACE, T_BRACKET, T_UNBRACKET, T_SEMICOLON, T_COLON, T_COMMA};

        private final byte[] text = new byte[MOST_TEXT];
        private final Strings strings;
        private int length;
        private int end;
        private int at;
        private int start;
        // For each token its kind, its first byte, and its string or number.
        private final byte[] kinds = new byte[MOST_TEXT + 1];
        private final int[] starts = new int[MOST_TEXT + 1];
        private final long[] numbers = new long[MOST_TEXT + 1];
        private int token;

        Scanner(Strings strings) {
            this.strings = strings;
        }

        boolean hasRoom(int bytes) {
            return length + bytes <= MOST_TEXT;
        }

        void append(int four) {
            for (int shift = 24; shift >= 0 && length < MOST_TEXT; shift -= 8) {
                text[length] = (byte) (four >> shift);
                length++;
            }
        }

        void begin(int bytes) {
            end = Math.min(Math.max(bytes, 0), MOST_TEXT);
            at = 0;
            token = 0;
            int kind = T_BAD;
            for (int i = 0; i <= MOST_TEXT && kind != T_END; i++) {
                at = afterBlanks(at);
                start = at;
                kind = at < end ? scanToken(i) : T_END;
                kinds[i] = (byte) kind;
                starts[i] = start;
                // What stands behind a wrong token is never asked for.
                end = kind == T_BAD ? at : end;
            }
        }

        private int scanToken(int index) {
            int first = byteAt(at);
            numbers[index] = 0;
            if (isLetter(first)) {
                return scanName(index);
            }
            if (first == '0' && byteAt(at + 1) == 'x') {
                return scanHex(index);
            }
            if (isDigit(first)) {
                return scanDigits(index);
            }
            if (first == '"' || first == '\'') {
                return scanString(index, first);
            }
            return scanSign(first);
        }

        /** After a fault there are no more tokens, so that all that reads comes to its end. */
        void stop() {
            kinds[token] = T_END;
        }

        void advance() {
            if (kinds[token] != T_END && token < MOST_TEXT) {
                token++;
            }
        }

        int kind() {
            return kinds[token];
        }

        int where() {
            return starts[token];
        }

        long number() {
            return numbers[token];
        }

        int string() {
            return (int) numbers[token];
        }

        /** Whether a single '=' stands behind the token at hand. */
        boolean setFollows() {
            return token < MOST_TEXT && kinds[token] != T_END && kinds[token + 1] == T_SET;
        }

        private int byteAt(int index) {
            return index >= 0 && index < end ? text[index] & 255 : -1;
        }

        /** The first byte behind blanks and comments, or a wrong byte in a comment. */
        private int afterBlanks(int from) {
            int i = from;
            boolean comment = false;
            while (i < end) {
                int c = byteAt(i);
                if (comment) {
                    if (!isText(c)) {
                        return i;
                    }
                    comment = c != 10;
                } else if (c == '-' && byteAt(i + 1) == '-') {
                    comment = true;
                } else if (!isBlank(c)) {
                    return i;
                }
                i++;
            }
            return i;
        }

        private static boolean isBlank(int c) {
            return c == 9 || c == 10 || c == 13 || c == 32;
        }

        private static boolean isText(int c) {
            return c >= 32 && c <= 126 || c == 9 || c == 10 || c == 13;
        }

        private static boolean isLetter(int c) {
            return c >= 'A' && c <= 'Z' || c >= 'a' && c <= 'z' || c == '_';
        }

        private static boolean isDigit(int c) {
            return c >= '0' && c <= '9';
        }

        private static int hexDigit(int c) {
            if (c >= '0' && c <= '9') {
                return c - '0';
            }
            if (c >= 'a' && c <= 'f') {
                return c - 'a' + 10;
            }
            return c >= 'A' && c <= 'F' ? c - 'A' + 10 : -1;
        }

        private int scanName(int index) {
            strings.clear();
            while (at < end && (isLetter(byteAt(at)) || isDigit(byteAt(at)))) {
                strings.append(byteAt(at));
                at++;
            }
            if (at - start > MOST_NAME) {
                return T_BAD;
            }
            int kind = wordToken();
            if (kind == T_NAME) {
                numbers[index] = strings.add();
            }
            return kind;
        }

        private int wordToken() {
            int word = T_AND;
            int from = 0;
            for (int i = 0; i < WORDS.length(); i++) {
                if (WORDS.charAt(i) == '|') {
                    if (isWord(from, i - from)) {
                        return word;
                    }
                    word++;
                    from = i + 1;
                }
            }
            return T_NAME;
        }

        private boolean isWord(int from, int size) {
            boolean same = size == at - start;
            for (int i = 0; i < size && same; i++) {
                same = WORDS.charAt(from + i) == byteAt(start + i);
            }
            return same;
        }

        private int scanHex(int index) {
            at += 2;
            int digits = 0;
            while (digits < 16 && hexDigit(byteAt(at)) >= 0) {
                numbers[index] = numbers[index] << 4 | hexDigit(byteAt(at));
                at++;
                digits++;
            }
            return digits > 0 && endsNumber() ? T_NUMBER : T_BAD;
        }

        private int scanDigits(int index) {
            boolean fits = true;
            long number = 0;
            while (at < end && isDigit(byteAt(at))) {
                int digit = byteAt(at) - '0';
                fits = fits && number <= (Long.MAX_VALUE - digit) / 10;
                number = number * 10 + digit;
                at++;
            }
            numbers[index] = number;
            return fits && endsNumber() ? T_NUMBER : T_BAD;
        }

        private boolean endsNumber() {
            return !isLetter(byteAt(at)) && !isDigit(byteAt(at));
        }

        private int scanString(int index, int quote) {
            strings.clear();
            at++;
            boolean sound = true;
            while (at < end && sound) {
                int c = byteAt(at);
                at++;
                if (c == quote) {
                    numbers[index] = strings.add();
                    return T_STRING;
                }
                if (c == '\\') {
                    sound = scanEscape();
                } else {
                    sound = isText(c) && c != 10 && c != 13;
                    strings.append(c);
                }
                sound = sound && strings.size <= MOST_LITERAL;
            }
            return T_BAD;
        }

        private boolean scanEscape() {
            int c = byteAt(at);
            if (isDigit(c)) {
                int value = 0;
                for (int i = 0; i < 3 && isDigit(byteAt(at)); i++) {
                    value = value * 10 + byteAt(at) - '0';
                    at++;
                }
                strings.append(value);
                return value <= 255;
            }
            at++;
            if (c == 'n') {
                strings.append(10);
            } else if (c == 't') {
                strings.append(9);
            } else {
                strings.append(c);
            }
            return c == 'n' || c == 't' || c == '\\' || c == '"' || c == '\'';
        }

        private int scanSign(int first) {
            boolean doubled = byteAt(at + 1) == first;
            boolean set = byteAt(at + 1) == '=';
            int single = SINGLE_SIGNS.indexOf((char) first);
            at++;
            if (single >= 0 && single < SINGLE_TOKENS.length) {
                return SINGLE_TOKENS[single];
            }
            if (first == '.') {
                boolean tripled = doubled && byteAt(at + 1) == first;
                at += tripled ? 2 : doubled ? 1 : 0;
                return tripled ? T_DOTS : doubled ? T_JOIN : T_DOT;
            }
            if (first == '/' && doubled) {
                at++;
                return T_SLASHES;
            }
            if (first == '=' || first == '<' || first == '>' || first == '~' && set) {
                at += set ? 1 : 0;
                return comparison(first, set);
            }
            return T_BAD;
        }

        private static int comparison(int first, boolean set) {
            switch (first) {
                case '=':
                    return set ? T_LIKE : T_SET;
                case '<':
                    return set ? T_AT_MOST : T_LESS;
                case '>':
                    return set ? T_AT_LEAST : T_MORE;
                default:
                    return T_UNLIKE;
            }
        }
    }

    /** All strings, each once; those of the page and of the text are fixed and have no cells. */
    static final class Strings {
        private static final int MOST_FIXED_BYTES = MOST_TEXT + 1000;
        private static final int MOST_FIXED = MOST_TEXT / 2 + BUILT_IN_STRING_COUNT + 2;

        // The string that is being put together, before it is looked for.
        private final byte[] scratch = new byte[MOST_STRING + 100];
        private int size;
        private int hash;
        private byte[] bytes;
        private byte[] spare;
        private int bytesEnd;
        private final int[] offsets;
        private final int[] lengths;
        private final int[] hashes;
        private final int[] nexts;
        private final int[] marks;
        private final int[] buckets;
        private int top;
        private int free;
        private int fixed;

        Strings(int limit) {
            int most = MOST_FIXED + limit / (STRING_CELLS + 1) + 2;
            bytes = new byte[MOST_FIXED_BYTES + limit * 8 + MOST_STRING];
            spare = new byte[bytes.length];
            buckets = new int[bucketsFor(limit)];
            offsets = new int[most];
            lengths = new int[most];
            hashes = new int[most];
            nexts = new int[most];
            marks = new int[most];
        }

        /** Only the built-in strings are there; they are put together once, and then stay at the front. */
        void begin() {
            Arrays.fill(buckets, -1);
            free = -1;
            fixed = 0;
            if (top == 0) {
                addBuiltIns();
                return;
            }
            top = BUILT_IN_STRING_COUNT;
            bytesEnd = 0;
            for (int string = 0; string < top; string++) {
                bytesEnd += lengths[string];
                nexts[string] = buckets[bucketOf(hashes[string])];
                buckets[bucketOf(hashes[string])] = string;
            }
        }

        private void addBuiltIns() {
            clear();
            for (int i = 0; i < BUILT_IN_STRINGS.length(); i++) {
                if (BUILT_IN_STRINGS.charAt(i) == '|') {
                    add();
                    clear();
                } else {
                    append(BUILT_IN_STRINGS.charAt(i));
                }
            }
        }

        /** What has been added up to now stays for the whole run. */
        void fix() {
            fixed = top;
        }

        void clear() {
            size = 0;
        }

        /** Bytes beyond the room are counted only: such a string is too long anyway. */
        void append(int character) {
            if (size < scratch.length) {
                scratch[size] = (byte) character;
            }
            size++;
        }

        void appendString(int string) {
            appendPart(string, 0, lengths[string]);
        }

        void appendPart(int string, int from, int to) {
            for (int i = from; i < to; i++) {
                append(bytes[offsets[string] + i]);
            }
        }

        void appendNumber(long number) {
            long scale = 1;
            for (int i = 0; i < 18 && number / scale / 10 != 0; i++) {
                scale *= 10;
            }
            if (number < 0) {
                append('-');
            }
            for (int i = 0; i < 19 && scale > 0; i++) {
                append('0' + (int) Math.abs(number / scale % 10));
                scale /= 10;
            }
        }

        /** A value as print writes it. */
        void appendValue(int tag, long value) {
            if (tag == STRING) {
                appendString((int) value);
            } else if (tag == NUMBER) {
                appendNumber(value);
            } else {
                appendString(wordFor(tag));
            }
        }

        private static int wordFor(int tag) {
            switch (tag) {
                case NIL:
                    return S_NIL;
                case FALSE:
                    return S_FALSE;
                case TRUE:
                    return S_TRUE;
                case TABLE:
                    return S_TABLE;
                case STRAND:
                    return S_STRAND;
                default:
                    return S_FUNCTION;
            }
        }

        int byteOf(int string, int index) {
            return index >= 0 && index < lengths[string] ? bytes[offsets[string] + index] & 255 : -1;
        }

        boolean isBelow(int left, int right) {
            int both = Math.min(lengths[left], lengths[right]);
            for (int i = 0; i < both; i++) {
                int order = byteOf(left, i) - byteOf(right, i);
                if (order != 0) {
                    return order < 0;
                }
            }
            return lengths[left] < lengths[right];
        }

        /** Whether a string is digits, perhaps with - ahead, that fit into 64 bits. */
        boolean isNumeral(int string) {
            int from = byteOf(string, 0) == '-' ? 1 : 0;
            boolean sound = lengths[string] > from;
            long number = 0;
            for (int i = from; i < lengths[string] && sound; i++) {
                int digit = byteOf(string, i) - '0';
                // Counted downwards, as there is one number more below 0 than above.
                sound = digit >= 0 && digit <= 9 && number >= (Long.MIN_VALUE + digit) / 10;
                number = number * 10 - digit;
            }
            return sound && (from == 1 || number != Long.MIN_VALUE);
        }

        long numeral(int string) {
            boolean below = byteOf(string, 0) == '-';
            long number = 0;
            for (int i = below ? 1 : 0; i < lengths[string]; i++) {
                number = number * 10 - (byteOf(string, i) - '0');
            }
            return below ? number : -number;
        }

        /** The string like the one that has been put together, or -1. */
        int find() {
            hash = size;
            for (int i = 0; i < size && i < scratch.length; i++) {
                hash = hash * 31 + scratch[i];
            }
            int string = buckets[bucketOf(hash)];
            for (int i = 0; i < offsets.length && string >= 0; i++) {
                if (hashes[string] == hash && isScratch(string)) {
                    return string;
                }
                string = nexts[string];
            }
            return -1;
        }

        private int bucketOf(int hash) {
            return (hash ^ hash >>> 10) & buckets.length - 1;
        }

        private boolean isScratch(int string) {
            boolean same = lengths[string] == size;
            for (int i = 0; i < size && same; i++) {
                same = bytes[offsets[string] + i] == scratch[i];
            }
            return same;
        }

        /** The string that has been put together: the one that is there, or a new one. */
        int add() {
            int found = find();
            return found >= 0 ? found : insert();
        }

        /** A new string, of which find has found none; -1 if there is no room, which the cells rule out. */
        int insert() {
            int string = free >= 0 ? free : top;
            if (bytesEnd + size > bytes.length) {
                squeeze();
            }
            if (string >= offsets.length || size > scratch.length || bytesEnd + size > bytes.length) {
                return -1;
            }
            if (free >= 0) {
                free = nexts[free];
            } else {
                top++;
            }
            System.arraycopy(scratch, 0, bytes, bytesEnd, size);
            offsets[string] = bytesEnd;
            lengths[string] = size;
            hashes[string] = hash;
            marks[string] = 0;
            bytesEnd += size;
            nexts[string] = buckets[bucketOf(hash)];
            buckets[bucketOf(hash)] = string;
            return string;
        }

        /** Bytes of strings that are gone leave the row of bytes. */
        private void squeeze() {
            int end = 0;
            for (int string = 0; string < top; string++) {
                if (lengths[string] > 0) {
                    System.arraycopy(bytes, offsets[string], spare, end, lengths[string]);
                    offsets[string] = end;
                    end += lengths[string];
                }
            }
            byte[] old = bytes;
            bytes = spare;
            spare = old;
            bytesEnd = end;
        }

        int cellsFor(int length) {
            return STRING_CELLS + (length + 7) / 8;
        }

        /** All strings that do not bear the mark go, but for the fixed ones. */
        void sweep(int mark) {
            for (int string = fixed; string < top; string++) {
                if (lengths[string] >= 0 && marks[string] != mark) {
                    unlink(string);
                    lengths[string] = -1;
                    nexts[string] = free;
                    free = string;
                }
            }
        }

        /** Finds the bucket by itself, as it is called from deep below. */
        private void unlink(int string) {
            int bucket = (hashes[string] ^ hashes[string] >>> 10) & buckets.length - 1;
            int other = buckets[bucket];
            if (other == string) {
                buckets[bucket] = nexts[string];
            }
            for (int i = 0; i < nexts.length && other >= 0; i++) {
                if (nexts[other] == string) {
                    nexts[other] = nexts[string];
                }
                other = nexts[other];
            }
        }
    }

    /** The rows of all tables: keys with their values, found by one table of hashes. */
    static final class Rows {
        private final int[] buckets;
        // For each place in a row: its key and value, the next one in the row, its bucket and the next one there.
        private final byte[] keyTags;
        private final long[] keys;
        private final byte[] valueTags;
        private final long[] values;
        private final int[] nexts;
        private final int[] homes;
        private final int[] chains;
        private final int[] owners;
        private int free;
        private int top;
        // For each table: its row, how many keys are in it and how many of them have no value.
        private final int[] firsts;
        private final int[] lasts;
        private final int[] sizes;
        private final int[] deads;
        // Keys 1 .. border have values: so the length is looked for from there on.
        private final int[] borders;

        Rows(int limit) {
            int places = limit / KEY_CELLS + 2;
            int tables = limit / 2 + 2;
            buckets = new int[bucketsFor(limit)];
            keyTags = new byte[places];
            keys = new long[places];
            valueTags = new byte[places];
            values = new long[places];
            nexts = new int[places];
            homes = new int[places];
            chains = new int[places];
            owners = new int[places];
            firsts = new int[tables];
            lasts = new int[tables];
            sizes = new int[tables];
            deads = new int[tables];
            borders = new int[tables];
        }

        void begin() {
            Arrays.fill(buckets, -1);
            free = -1;
            top = 0;
        }

        void open(int table) {
            firsts[table] = -1;
            lasts[table] = -1;
            sizes[table] = 0;
            deads[table] = 0;
            borders[table] = 0;
        }

        private int bucketOf(int table, int tag, long key) {
            int hash = (int) (key ^ key >>> 32) * 31 + table * 977 + tag * 131;
            return (hash ^ hash >>> 10 ^ hash >>> 20) & buckets.length - 1;
        }

        /** The place of a key in a table's row, or -1. */
        int find(int table, int tag, long key) {
            int place = buckets[bucketOf(table, tag, key)];
            for (int i = 0; i < keys.length && place >= 0; i++) {
                if (keys[place] == key && keyTags[place] == tag && owners[place] == table) {
                    return place;
                }
                place = chains[place];
            }
            return -1;
        }

        /** The place of a key that has a value, or -1. */
        int findValue(int table, int tag, long key) {
            int place = find(table, tag, key);
            return place >= 0 && valueTags[place] != NIL ? place : -1;
        }

        int tagAt(int place) {
            return place >= 0 && place < top ? valueTags[place] : NIL;
        }

        long valueAt(int place) {
            return place >= 0 && place < top ? values[place] : 0;
        }

        /** The first place with a value from this one on, or -1. */
        int withValue(int place) {
            int found = place;
            for (int i = 0; i < keys.length && found >= 0 && valueTags[found] == NIL; i++) {
                found = nexts[found];
            }
            return found;
        }

        void change(int place, int tag, long value) {
            int table = owners[place];
            if (tag == NIL && valueTags[place] != NIL) {
                deads[table]++;
                if (keyTags[place] == NUMBER && keys[place] >= 1 && keys[place] <= borders[table]) {
                    borders[table] = (int) keys[place] - 1;
                }
            }
            valueTags[place] = (byte) tag;
            values[place] = value;
        }

        /** A key comes to the end of a row; false if there is no room for it, which the cells rule out. */
        boolean append(int table, int tag, long key, int valueTag, long value) {
            int place = free >= 0 ? free : top;
            if (place >= keys.length) {
                return false;
            }
            if (free >= 0) {
                free = nexts[free];
            } else {
                top++;
            }
            keyTags[place] = (byte) tag;
            keys[place] = key;
            valueTags[place] = (byte) valueTag;
            values[place] = value;
            owners[place] = table;
            nexts[place] = -1;
            int bucket = bucketOf(table, tag, key);
            homes[place] = bucket;
            chains[place] = buckets[bucket];
            buckets[bucket] = place;
            if (lasts[table] >= 0) {
                nexts[lasts[table]] = place;
            } else {
                firsts[table] = place;
            }
            lasts[table] = place;
            sizes[table]++;
            return true;
        }

        /** All keys without values leave the row: how many. */
        int purge(int table) {
            int gone = deads[table];
            if (gone == 0) {
                return 0;
            }
            int place = firsts[table];
            int last = -1;
            for (int i = 0; i < keys.length && place >= 0; i++) {
                int next = nexts[place];
                if (valueTags[place] == NIL) {
                    unlink(place);
                } else {
                    if (last >= 0) {
                        nexts[last] = place;
                    } else {
                        firsts[table] = place;
                    }
                    last = place;
                }
                place = next;
            }
            lasts[table] = last;
            if (last >= 0) {
                nexts[last] = -1;
            } else {
                firsts[table] = -1;
            }
            sizes[table] -= gone;
            deads[table] = 0;
            return gone;
        }

        private void unlink(int place) {
            int other = buckets[homes[place]];
            if (other == place) {
                buckets[homes[place]] = chains[place];
            }
            for (int i = 0; i < keys.length && other >= 0; i++) {
                if (chains[other] == place) {
                    chains[other] = chains[place];
                }
                other = chains[other];
            }
            owners[place] = -1;
            nexts[place] = free;
            free = place;
        }

        /** The rows of all tables that do not bear the mark go. */
        void sweep(int[] marks, int mark) {
            for (int place = 0; place < top; place++) {
                if (owners[place] >= 0 && marks[owners[place]] != mark) {
                    unlink(place);
                }
            }
        }

        int length(int table) {
            int n = borders[table];
            while (n < keys.length && findValue(table, NUMBER, n + 1) >= 0) {
                n++;
            }
            borders[table] = n;
            return n;
        }
    }

    /**
     * The slots and frames of the strand that runs and of those that wait, one above the other,
     * and the put-aside slots and frames of those that stopped.
     */
    static final class Stack {
        // Far above what frames can need whose cells fit into a heap.
        private static final int MOST_SLOTS = 1000000;
        private static final int MOST_FRAMES = 20000;
        // What a body, of 40 variables and exps nested 16 deep in lists of 10, and values that are given
        // need at most above any top: so a strand that is brought back can go on in all its frames.
        private static final int SLACK = 400;

        // A frame is a call that is not through: these are its fields.
        private static final int F_KIND = 0;
        private static final int F_START = 1;
        private static final int F_BASE = 2;
        private static final int F_NEXT = 3;
        private static final int F_WANT = 4;
        private static final int F_EXTRA = 5;
        private static final int F_DEPTH = 6;
        private static final int FRAME = 7;
        private static final int OF_PROCEDURE = 0;
        private static final int OF_PCALL = 1;
        private static final int OF_TOSTRING = 2;

        // A link is a strand that was resumed and has not stopped yet: these are its fields.
        private static final int L_STRAND = 0;
        private static final int L_SLOTS = 1;
        private static final int L_FRAMES = 2;
        private static final int L_RESULT = 3;
        private static final int L_WANT = 4;
        private static final int L_WRAPPED = 5;
        private static final int LINK = 6;

        // What is kept of a strand that stopped: these are its fields.
        private static final int K_OFFSET = 0;
        private static final int K_SLOTS = 1;
        private static final int K_FRAMES = 2;
        private static final int K_CALLS = 3;
        private static final int K_RESULT = 4;
        private static final int K_WANT = 5;
        private static final int K_BEFORE = 6;
        private static final int K_BEHIND = 7;
        private static final int KEEP = 8;

        private byte[] tags = new byte[1000];
        private long[] values = new long[1000];
        private int top;
        private int[] frames = new int[80 * FRAME];
        private int frameTop;
        private int calls;
        private final int[] links = new int[(MOST_WAITING + 1) * LINK];
        private int linkTop;
        private byte[] asideTags = new byte[500];
        private long[] asideValues = new long[500];
        private int asideEnd;
        private final int[] asides;
        private int firstAside;
        private int lastAside;

        Stack(int limit) {
            asides = new int[(limit / 2 + 2) * KEEP];
        }

        void begin() {
            top = 0;
            frameTop = 0;
            calls = 0;
            linkTop = 0;
            asideEnd = 0;
            firstAside = -1;
            lastAside = -1;
        }

        /** Room for so many slots and the slack above the top; false only far beyond all limits. */
        boolean reserve(int more) {
            int need = top + more + SLACK;
            if (need <= tags.length) {
                return true;
            }
            if (need > MOST_SLOTS) {
                return false;
            }
            int size = Math.min(MOST_SLOTS, need * 2);
            tags = Arrays.copyOf(tags, size);
            values = Arrays.copyOf(values, size);
            return true;
        }

        void push(int tag, long value) {
            if (top < tags.length) {
                tags[top] = (byte) tag;
                values[top] = value;
                top++;
            }
        }

        void set(int slot, int tag, long value) {
            if (slot >= 0 && slot < tags.length) {
                tags[slot] = (byte) tag;
                values[slot] = value;
            }
        }

        int tagAt(int slot) {
            return slot >= 0 && slot < tags.length ? tags[slot] : NIL;
        }

        long valueAt(int slot) {
            return slot >= 0 && slot < values.length ? values[slot] : 0;
        }

        void copy(int from, int to, int size) {
            if (from >= 0 && to >= 0 && size > 0 && from + size <= tags.length && to + size <= tags.length) {
                System.arraycopy(tags, from, tags, to, size);
                System.arraycopy(values, from, values, to, size);
            }
        }

        /** The slots from one on become so many: the missing ones are NIL. */
        void adjust(int start, int size) {
            for (int slot = top; slot < start + size; slot++) {
                set(slot, NIL, 0);
            }
            top = start + size;
        }

        int frameField(int field) {
            return frameTop > 0 ? frames[(frameTop - 1) * FRAME + field] : 0;
        }

        void setFrameField(int field, int value) {
            if (frameTop > 0) {
                frames[(frameTop - 1) * FRAME + field] = value;
            }
        }

        /** A new frame; its depth is that of the strand's last one, and one more if it is a call. */
        boolean pushFrame(int kind, int start, int want, int depth) {
            int at = frameTop * FRAME;
            if (frameTop >= MOST_FRAMES) {
                return false;
            }
            if (at + FRAME > frames.length) {
                frames = Arrays.copyOf(frames, frames.length * 2);
            }
            frames[at + F_KIND] = kind;
            frames[at + F_START] = start;
            frames[at + F_BASE] = start;
            frames[at + F_NEXT] = 0;
            frames[at + F_WANT] = want;
            frames[at + F_EXTRA] = 0;
            frames[at + F_DEPTH] = depth;
            frameTop++;
            calls += kind == OF_TOSTRING ? 0 : 1;
            return true;
        }

        /** Frames from the topmost one down to this number go: how many of them were calls. */
        int popFrames(int down) {
            int gone = 0;
            while (frameTop > down && frameTop > 0) {
                gone += frameField(F_KIND) == OF_TOSTRING ? 0 : 1;
                frameTop--;
            }
            calls -= gone;
            return gone;
        }

        /** How many frames belong to strands that wait. */
        int frameFloor() {
            return linkTop > 0 ? linkField(L_FRAMES) : 0;
        }

        /** Calls of the strand that runs. */
        int depth() {
            return frameTop > frameFloor() ? frameField(F_DEPTH) : 0;
        }

        int linkField(int field) {
            return linkTop > 0 ? links[(linkTop - 1) * LINK + field] : -1;
        }

        void pushLink(int strand, int result, int want, boolean wrapped) {
            int at = linkTop * LINK;
            if (at + LINK <= links.length) {
                links[at + L_STRAND] = strand;
                links[at + L_SLOTS] = top;
                links[at + L_FRAMES] = frameTop;
                links[at + L_RESULT] = result;
                links[at + L_WANT] = want;
                links[at + L_WRAPPED] = wrapped ? 1 : 0;
                linkTop++;
            }
        }

        /** The last protected call of the strand that runs, or -1. */
        int lastPcall() {
            int frame = frameTop - 1;
            while (frame >= frameFloor() && frames[frame * FRAME + F_KIND] != OF_PCALL) {
                frame--;
            }
            return frame >= frameFloor() ? frame : -1;
        }

        /** How many "__tostring" are being called since a procedure's last instruction. */
        int openTostrings() {
            int open = 0;
            int frame = frameTop - 1;
            while (frame >= frameFloor() && frames[frame * FRAME + F_KIND] != OF_PROCEDURE) {
                open += frames[frame * FRAME + F_KIND] == OF_TOSTRING ? 1 : 0;
                frame--;
            }
            return open;
        }

        /** The strand that runs is put aside; what it goes on with will be set at this slot. */
        boolean putAside(int result, int want) {
            int floor = linkField(L_SLOTS);
            int frameCount = frameTop - frameFloor();
            int slots = top - floor;
            int keep = linkField(L_STRAND) * KEEP;
            if (linkTop == 0 || keep + KEEP > asides.length || !asideRoom(slots + frameCount * FRAME)) {
                return false;
            }
            System.arraycopy(tags, floor, asideTags, asideEnd, slots);
            System.arraycopy(values, floor, asideValues, asideEnd, slots);
            framesAside(asideEnd + slots, floor, frameCount);
            asides[keep + K_OFFSET] = asideEnd;
            asides[keep + K_SLOTS] = slots;
            asides[keep + K_FRAMES] = frameCount;
            asides[keep + K_CALLS] = depth();
            asides[keep + K_RESULT] = result - floor;
            asides[keep + K_WANT] = want;
            linkAside(linkField(L_STRAND));
            asideEnd += slots + frameCount * FRAME;
            popFrames(frameFloor());
            return true;
        }

        private void framesAside(int to, int floor, int frameCount) {
            int from = frameFloor() * FRAME;
            for (int i = 0; i < frameCount * FRAME; i++) {
                int field = i % FRAME;
                int moved = field == F_START || field == F_BASE ? floor : 0;
                asideTags[to + i] = NIL;
                asideValues[to + i] = frames[from + i] - moved;
            }
        }

        private void linkAside(int strand) {
            asides[strand * KEEP + K_BEFORE] = lastAside;
            asides[strand * KEEP + K_BEHIND] = -1;
            if (lastAside >= 0) {
                asides[lastAside * KEEP + K_BEHIND] = strand;
            } else {
                firstAside = strand;
            }
            lastAside = strand;
        }

        /** A strand that stopped, and goes on or is gone, is put aside no longer. */
        void unlinkAside(int strand) {
            int before = asides[strand * KEEP + K_BEFORE];
            int behind = asides[strand * KEEP + K_BEHIND];
            if (before >= 0) {
                asides[before * KEEP + K_BEHIND] = behind;
            } else {
                firstAside = behind;
            }
            if (behind >= 0) {
                asides[behind * KEEP + K_BEFORE] = before;
            } else {
                lastAside = before;
                asideEnd = asides[strand * KEEP + K_OFFSET];
            }
        }

        private int asideEndOf(int strand) {
            int keep = strand * KEEP;
            return asides[keep + K_OFFSET] + asides[keep + K_SLOTS] + asides[keep + K_FRAMES] * FRAME;
        }

        private boolean asideRoom(int more) {
            if (asideEnd + more > asideTags.length) {
                squeezeAsides();
            }
            if (asideEnd + more > MOST_SLOTS) {
                return false;
            }
            if (asideEnd + more > asideTags.length) {
                int size = Math.min(MOST_SLOTS, (asideEnd + more) * 2);
                asideTags = Arrays.copyOf(asideTags, size);
                asideValues = Arrays.copyOf(asideValues, size);
            }
            return true;
        }

        /** Strands are linked in the order of their places, so that each can move down. */
        private void squeezeAsides() {
            int end = 0;
            int strand = firstAside;
            for (int i = 0; i < asides.length && strand >= 0; i++) {
                int keep = strand * KEEP;
                int size = asideEndOf(strand) - asides[keep + K_OFFSET];
                System.arraycopy(asideTags, asides[keep + K_OFFSET], asideTags, end, size);
                System.arraycopy(asideValues, asides[keep + K_OFFSET], asideValues, end, size);
                asides[keep + K_OFFSET] = end;
                end += size;
                strand = asides[keep + K_BEHIND];
            }
            asideEnd = end;
        }

        int asideField(int strand, int field) {
            return strand >= 0 && strand * KEEP + field < asides.length ? asides[strand * KEEP + field] : 0;
        }

        /** The strand of the topmost link comes back onto the stack. */
        boolean bringBack() {
            int strand = linkField(L_STRAND);
            int offset = asideField(strand, K_OFFSET);
            int slots = asideField(strand, K_SLOTS);
            int frameCount = asideField(strand, K_FRAMES);
            if (linkTop == 0 || !reserve(slots) || frameTop + frameCount > MOST_FRAMES) {
                return false;
            }
            if ((frameTop + frameCount) * FRAME > frames.length) {
                frames = Arrays.copyOf(frames, (frameTop + frameCount) * FRAME * 2);
            }
            System.arraycopy(asideTags, offset, tags, top, slots);
            System.arraycopy(asideValues, offset, values, top, slots);
            for (int i = 0; i < frameCount * FRAME; i++) {
                int field = i % FRAME;
                int moved = field == F_START || field == F_BASE ? top : 0;
                frames[frameTop * FRAME + i] = (int) asideValues[offset + slots + i] + moved;
            }
            top += slots;
            frameTop += frameCount;
            calls += asideField(strand, K_CALLS);
            unlinkAside(strand);
            return true;
        }
    }

    /** Objects but for strings, what of them is reachable, and how many cells that are. */
    static final class Heap {
        // More cells than any heap has: asking for them makes the count exact.
        private static final int EVERYTHING = 1000000;
        private static final int FREE = -1;

        // States of strands.
        private static final int NEW = 0;
        private static final int STOPPED = 1;
        private static final int RUNS = 2;
        private static final int WAITS = 3;
        private static final int DEAD = 4;

        private final int limit;
        private final Rows rows;
        private final Strings strings;
        private final Stack stack;
        // Never below the cells of what is reachable: what is gone is counted till the next look.
        private int used;
        private int globals;
        private final int[] kinds;
        private final int[] marks;
        // A table's meta table; a procedure's body; a kept variable's tag; a strand's state; a wrapper's strand.
        private final int[] ones;
        // A procedure's first keep; the procedure of a strand that is new.
        private final int[] twos;
        // How many variables a procedure keeps.
        private final int[] threes;
        // A kept variable's value.
        private final long[] wides;
        private int top;
        private int free;
        private int mark;
        private final int[] pending;
        private int pendingTop;
        // The variables that procedures keep, in chains.
        private final int[] keepVariables;
        private final int[] keepNexts;
        private int keepTop;
        private int keepFree;

        Heap(int limit, Rows rows, Strings strings, Stack stack) {
            this.limit = limit;
            this.rows = rows;
            this.strings = strings;
            this.stack = stack;
            int most = limit / 2 + 2;
            kinds = new int[most];
            marks = new int[most];
            ones = new int[most];
            twos = new int[most];
            threes = new int[most];
            wides = new long[most];
            pending = new int[most];
            keepVariables = new int[limit + 2];
            keepNexts = new int[limit + 2];
        }

        /** The heap as it is at first: the globals alone. */
        void begin() {
            stack.begin();
            rows.begin();
            used = 0;
            top = 0;
            free = -1;
            mark = 0;
            keepTop = 0;
            keepFree = -1;
            globals = makeTable();
            for (int i = 0; i < BUILT_INS; i++) {
                put(globals, STRING, i, BUILT_IN, i);
            }
        }

        /** Whether so many cells more fit; if they seem not to, what is gone is let go first. */
        boolean room(int cells) {
            if (used + cells <= limit) {
                return true;
            }
            mark++;
            used = CALL_CELLS * stack.calls;
            markHeld();
            for (int i = 0; i < kinds.length && pendingTop > 0; i++) {
                pendingTop--;
                int object = pending[pendingTop];
                if (kinds[object] == TABLE) {
                    markTable(object);
                } else if (kinds[object] == PROCEDURE) {
                    markProcedure(object);
                } else if (kinds[object] == STRAND) {
                    markStrand(object);
                } else {
                    used += WRAPPER_CELLS;
                    visit(STRAND, ones[object]);
                }
            }
            releaseVariables();
            strings.sweep(mark);
            rows.sweep(marks, mark);
            sweepObjects();
            return used + cells <= limit;
        }

        private void markHeld() {
            pendingTop = 0;
            visit(TABLE, globals);
            for (int slot = 0; slot < stack.top; slot++) {
                visit(stack.tags[slot], stack.values[slot]);
            }
            for (int i = 0; i < stack.linkTop; i++) {
                visit(STRAND, stack.links[i * Stack.LINK + Stack.L_STRAND]);
            }
        }

        private void visit(int tag, long value) {
            int kind = tag;
            int object = (int) value;
            if (kind == KEPT) {
                // A scope holds the variable's value, not the variable.
                kind = ones[object];
                object = (int) wides[object];
            }
            if (kind == STRING) {
                if (object >= strings.fixed && strings.marks[object] != mark) {
                    strings.marks[object] = mark;
                    used += STRING_CELLS + (strings.lengths[object] + 7) / 8;
                }
            } else if (kind >= TABLE && kind <= WRAPPER && marks[object] != mark) {
                marks[object] = mark;
                pending[pendingTop] = object;
                pendingTop++;
            }
        }

        private void markTable(int table) {
            used += TABLE_CELLS + KEY_CELLS * rows.sizes[table];
            if (ones[table] >= 0) {
                visit(TABLE, ones[table]);
            }
            int place = rows.firsts[table];
            for (int i = 0; i < rows.sizes[table] && place >= 0; i++) {
                visit(rows.keyTags[place], rows.keys[place]);
                visit(rows.valueTags[place], rows.values[place]);
                place = rows.nexts[place];
            }
        }

        private void markProcedure(int procedure) {
            used += PROCEDURE_CELLS + threes[procedure];
            int keep = twos[procedure];
            for (int i = 0; i < threes[procedure] && keep >= 0; i++) {
                int variable = keepVariables[keep];
                if (marks[variable] != mark) {
                    marks[variable] = mark;
                    used += KEPT_CELLS;
                    visit(ones[variable], wides[variable]);
                }
                keep = keepNexts[keep];
            }
        }

        private void markStrand(int strand) {
            used += STRAND_CELLS;
            if (ones[strand] == NEW) {
                visit(PROCEDURE, twos[strand]);
            } else if (ones[strand] == STOPPED) {
                int keep = strand * Stack.KEEP;
                used += CALL_CELLS * stack.asides[keep + Stack.K_CALLS];
                int from = stack.asides[keep + Stack.K_OFFSET];
                for (int i = 0; i < stack.asides[keep + Stack.K_SLOTS]; i++) {
                    visit(stack.asideTags[from + i], stack.asideValues[from + i]);
                }
            }
        }

        /** Variables that no procedure keeps any more go back into their scopes. */
        private void releaseVariables() {
            releaseAmong(stack.tags, stack.values, 0, stack.top);
            int strand = stack.firstAside;
            for (int i = 0; i < kinds.length && strand >= 0; i++) {
                int keep = strand * Stack.KEEP;
                if (marks[strand] == mark) {
                    int from = stack.asides[keep + Stack.K_OFFSET];
                    releaseAmong(stack.asideTags, stack.asideValues, from, from + stack.asides[keep + Stack.K_SLOTS]);
                }
                strand = stack.asides[keep + Stack.K_BEHIND];
            }
        }

        private void releaseAmong(byte[] tags, long[] values, int from, int to) {
            for (int slot = from; slot < to; slot++) {
                int variable = (int) values[slot];
                if (tags[slot] == KEPT && marks[variable] != mark) {
                    tags[slot] = (byte) ones[variable];
                    values[slot] = wides[variable];
                }
            }
        }

        private void sweepObjects() {
            for (int object = 0; object < top; object++) {
                if (kinds[object] != FREE && marks[object] != mark) {
                    if (kinds[object] == PROCEDURE) {
                        dropKeeps(object);
                    } else if (kinds[object] == STRAND && ones[object] == STOPPED) {
                        stack.unlinkAside(object);
                    }
                    kinds[object] = FREE;
                    ones[object] = free;
                    free = object;
                }
            }
        }

        private void dropKeeps(int procedure) {
            int keep = twos[procedure];
            for (int i = 0; i < threes[procedure] && keep >= 0; i++) {
                int next = keepNexts[keep];
                keepNexts[keep] = keepFree;
                keepFree = keep;
                keep = next;
            }
        }

        /** A new object, for which there is room; -1 never, as each has two cells at least. */
        private int make(int kind, int cells) {
            int object = free >= 0 ? free : top;
            if (object >= kinds.length) {
                return -1;
            }
            if (free >= 0) {
                free = ones[free];
            } else {
                top++;
            }
            kinds[object] = kind;
            marks[object] = 0;
            ones[object] = -1;
            twos[object] = -1;
            threes[object] = 0;
            used += cells;
            return object;
        }

        /** The string that has been put together, or -1 if there is no room for it. */
        int makeString() {
            int found = strings.find();
            if (found >= 0) {
                return found;
            }
            int cells = strings.cellsFor(strings.size);
            if (!room(cells)) {
                return -1;
            }
            int string = strings.insert();
            used += string >= 0 ? cells : 0;
            return string;
        }

        int makeTable() {
            int table = room(TABLE_CELLS) ? make(TABLE, TABLE_CELLS) : -1;
            if (table >= 0) {
                rows.open(table);
            }
            return table;
        }

        /** Room for these cells has been made sure of. */
        int makeProcedure(int body) {
            int procedure = make(PROCEDURE, PROCEDURE_CELLS);
            if (procedure >= 0) {
                ones[procedure] = body;
            }
            return procedure;
        }

        /** A procedure keeps one more variable, ahead of those that it keeps already. */
        void keep(int procedure, int variable) {
            int keep = keepFree >= 0 ? keepFree : keepTop;
            if (keep >= keepNexts.length) {
                return;
            }
            if (keepFree >= 0) {
                keepFree = keepNexts[keepFree];
            } else {
                keepTop++;
            }
            keepVariables[keep] = variable;
            keepNexts[keep] = twos[procedure];
            twos[procedure] = keep;
            threes[procedure]++;
            used++;
        }

        /** The variable that a procedure keeps as its index-th one, or -1. */
        int keptBy(int procedure, int index) {
            int keep = twos[procedure];
            for (int i = 0; i < index && keep >= 0; i++) {
                keep = keepNexts[keep];
            }
            return keep >= 0 ? keepVariables[keep] : -1;
        }

        /** The variable in a slot becomes an object, unless it is one. */
        int makeKept(int slot) {
            if (stack.tagAt(slot) == KEPT) {
                return (int) stack.valueAt(slot);
            }
            int variable = make(KEPT, KEPT_CELLS);
            if (variable >= 0) {
                ones[variable] = stack.tagAt(slot);
                wides[variable] = stack.valueAt(slot);
                stack.set(slot, KEPT, variable);
            }
            return variable;
        }

        int makeStrand(int procedure) {
            int strand = room(STRAND_CELLS) ? make(STRAND, STRAND_CELLS) : -1;
            if (strand >= 0) {
                ones[strand] = NEW;
                twos[strand] = procedure;
            }
            return strand;
        }

        /** A wrapper of a new strand: both are made together. */
        int makeWrapper(int procedure) {
            if (!room(STRAND_CELLS + WRAPPER_CELLS)) {
                return -1;
            }
            int strand = make(STRAND, STRAND_CELLS);
            int wrapper = make(WRAPPER, WRAPPER_CELLS);
            if (strand >= 0 && wrapper >= 0) {
                ones[strand] = NEW;
                twos[strand] = procedure;
                ones[wrapper] = strand;
            }
            return wrapper;
        }

        /** A key that is not NIL gets a value; false if there is no room for it. */
        boolean put(int table, int tag, long key, int valueTag, long value) {
            int place = rows.findValue(table, tag, key);
            if (place >= 0) {
                rows.change(place, valueTag, value);
                return true;
            }
            if (valueTag == NIL) {
                return true;
            }
            used -= KEY_CELLS * rows.purge(table);
            if (!room(KEY_CELLS) || !rows.append(table, tag, key, valueTag, value)) {
                return false;
            }
            used += KEY_CELLS;
            return true;
        }

        /** The place of what a value's meta table has for a name, or -1. */
        int metaPlace(int tag, long value, int name) {
            int meta = tag == TABLE ? ones[(int) value] : -1;
            int place = meta >= 0 ? rows.find(meta, STRING, name) : -1;
            return place >= 0 && rows.valueTags[place] != NIL ? place : -1;
        }

        /** Strands that run or wait lose their calls, and nothing is held any more: the run is over. */
        void letGo() {
            for (int i = 0; i < stack.linkTop; i++) {
                ones[stack.links[i * Stack.LINK + Stack.L_STRAND]] = DEAD;
            }
            stack.linkTop = 0;
            stack.top = 0;
            stack.popFrames(0);
            room(EVERYTHING);
        }
    }

    /** The instructions that a text becomes, three numbers each, and the bodies of its procedures. */
    static final class Program {
        private static final int OPERATION = 3;
        // A text of the most bytes gives fewer: no byte gives more than two instructions.
        private static final int MOST_CODE = MOST_TEXT * 2 * OPERATION;
        // The shortest procedure that can stand in a text has 13 bytes.
        private static final int MOST_BODIES = MOST_TEXT / 13 + 2;

        // Fields of a body.
        private static final int B_ENTRY = 0;
        private static final int B_PARAMETERS = 1;
        private static final int B_EXTRA = 2;
        private static final int B_KEEPS_FROM = 3;
        private static final int B_KEEPS = 4;
        private static final int B_DEEPEST = 5;
        private static final int BODY = 6;

        private final int[] code = new int[MOST_CODE];
        private int size;
        private final int[] bodies = new int[MOST_BODIES * BODY];
        private int bodyCount;
        // What the bodies keep: twice a variable's slot and one, or twice the number of a kept one.
        private final int[] keeps = new int[MOST_BODIES * MOST_KEEPS];
        private int keepCount;

        void clear() {
            size = 0;
            bodyCount = 0;
            keepCount = 0;
        }

        /** Where the new instruction stands. */
        int emit(int operation, int a, int b) {
            int at = size;
            if (at + OPERATION <= code.length) {
                code[at] = operation;
                code[at + 1] = a;
                code[at + 2] = b;
                size += OPERATION;
            }
            return at;
        }

        void setFirst(int at, int a) {
            if (at >= 0 && at + 1 < size) {
                code[at + 1] = a;
            }
        }

        void setSecond(int at, int b) {
            if (at >= 0 && at + 2 < size) {
                code[at + 2] = b;
            }
        }

        /** All jumps of a chain, each of which names the one before it, lead to this place. */
        void landChain(int last, int target) {
            int at = last;
            for (int i = 0; i < MOST_CODE && at >= 0 && at + 1 < size; i++) {
                int before = code[at + 1];
                code[at + 1] = target;
                at = before;
            }
        }

        int addBody() {
            int body = bodyCount;
            if ((body + 1) * BODY <= bodies.length) {
                bodies[body * BODY + B_ENTRY] = size;
                bodyCount++;
            }
            return body;
        }

        void setBody(int body, int field, int value) {
            if (body >= 0 && body < bodyCount) {
                bodies[body * BODY + field] = value;
            }
        }

        int bodyField(int body, int field) {
            return body >= 0 && body < bodyCount ? bodies[body * BODY + field] : 0;
        }

        void addKeep(int keep) {
            if (keepCount < keeps.length) {
                keeps[keepCount] = keep;
                keepCount++;
            }
        }

        int keepAt(int body, int index) {
            int at = bodyField(body, B_KEEPS_FROM) + index;
            return at >= 0 && at < keepCount ? keeps[at] : 0;
        }
    }

    /** The procedures around the place that is being read, and their variables. */
    static final class Scopes {
        private static final int MOST_LEVELS = MOST_NESTING + 2;

        private int level;
        // Each level's variables: those in scope come first, behind them those that are not yet.
        private final int[] names = new int[MOST_LEVELS * MOST_VARIABLES];
        private final int[] slots = new int[MOST_LEVELS * MOST_VARIABLES];
        private final int[] shown = new int[MOST_LEVELS];
        private final int[] declared = new int[MOST_LEVELS];
        private final int[] keeps = new int[MOST_LEVELS * MOST_KEEPS];
        private final int[] keepCounts = new int[MOST_LEVELS];
        private final int[] depths = new int[MOST_LEVELS];
        private final int[] deepest = new int[MOST_LEVELS];
        private final int[] loops = new int[MOST_LEVELS];
        private final boolean[] extras = new boolean[MOST_LEVELS];
        // Where the name that was looked for is: what instruction gets it, and its operand.
        private int foundAs;
        private int foundAt;

        void clear() {
            level = -1;
            open();
        }

        boolean open() {
            if (level + 1 >= MOST_LEVELS) {
                return false;
            }
            level++;
            shown[level] = 0;
            declared[level] = 0;
            keepCounts[level] = 0;
            depths[level] = 0;
            deepest[level] = 0;
            loops[level] = 0;
            extras[level] = false;
            return true;
        }

        void close() {
            if (level > 0) {
                level--;
            }
        }

        int depth() {
            return depths[level];
        }

        void setDepth(int depth) {
            depths[level] = depth;
            deepest[level] = Math.max(deepest[level], depth);
        }

        /** A variable that counts from now on, but is not yet in scope; false beyond the limit. */
        boolean declare(int name) {
            if (declared[level] >= MOST_VARIABLES) {
                return false;
            }
            names[level * MOST_VARIABLES + declared[level]] = name;
            declared[level]++;
            return true;
        }

        /** The declared variables come into scope, in slots from this one on. */
        void show(int firstSlot) {
            int slot = firstSlot;
            for (int i = shown[level]; i < declared[level]; i++) {
                slots[level * MOST_VARIABLES + i] = slot;
                slot++;
            }
            shown[level] = declared[level];
        }

        /** All variables but the first ones go out of scope. */
        void hide(int left) {
            shown[level] = left;
            declared[level] = left;
        }

        /** Looks for a name; false if a procedure would keep too many variables with it. */
        boolean find(int name) {
            int home = level;
            int slot = slotOf(home, name);
            while (slot < 0 && home > 0) {
                home--;
                slot = slotOf(home, name);
            }
            foundAs = slot < 0 ? OP_GLOBAL : OP_LOCAL;
            foundAt = slot < 0 ? name : slot;
            if (slot < 0 || home == level) {
                return true;
            }
            int keep = slot * 2 + 1;
            for (int i = home + 1; i <= level; i++) {
                int index = keepIndex(i, keep);
                if (index < 0) {
                    return false;
                }
                keep = index * 2;
            }
            foundAs = OP_KEPT;
            foundAt = keep / 2;
            return true;
        }

        private int slotOf(int at, int name) {
            int i = shown[at] - 1;
            while (i >= 0 && names[at * MOST_VARIABLES + i] != name) {
                i--;
            }
            return i >= 0 ? slots[at * MOST_VARIABLES + i] : -1;
        }

        private int keepIndex(int at, int keep) {
            int first = at * MOST_KEEPS;
            for (int i = 0; i < keepCounts[at]; i++) {
                if (keeps[first + i] == keep) {
                    return i;
                }
            }
            if (keepCounts[at] >= MOST_KEEPS) {
                return -1;
            }
            keeps[first + keepCounts[at]] = keep;
            keepCounts[at]++;
            return keepCounts[at] - 1;
        }
    }

    /** Reads a text by its grammar, checks its rules and limits, and makes its program. */
    static final class Reader {
        // What the exp that was read last is, as long as it is not on the stack as one value.
        private static final int DONE = -1;
        private static final int CALLED = -2;
        private static final int MEMBER = OP_MEMBER;
        private static final int EXTRA = OP_EXTRA;
        // No variable's name: for those that a for has of its own.
        private static final int NAMELESS = -1;
        private static final int UNARY = 7;
        private static final int NO_JUMP = -1;

        private final Scanner scanner;
        private final Program program;
        private final Strings strings;
        private final Scopes scopes = new Scopes();
        private final int[] targets = new int[(MOST_NESTING + 2) * MOST_LISTED * 2];
        private int targetTop;
        private int nesting;
        private int form;
        private int about;
        private int breaks;
        private int fault;
        private int place;

        Reader(Scanner scanner, Program program, Strings strings) {
            this.scanner = scanner;
            this.program = program;
            this.strings = strings;
        }

        /** The fault of the first n bytes, or 0. */
        int read(int n) {
            fault = 0;
            place = -1;
            nesting = 0;
            targetTop = 0;
            breaks = NO_JUMP;
            form = DONE;
            program.clear();
            scopes.clear();
            scopes.extras[0] = true;
            scanner.begin(n);
            int body = program.addBody();
            readBlock();
            if (scanner.kind() != T_END) {
                fail(SYNTAX);
            }
            endBody(body, 0);
            return fault;
        }

        private void fail(int what) {
            if (fault == 0) {
                fault = what;
                place = scanner.where();
                scanner.stop();
            }
        }

        private void expect(int kind) {
            if (scanner.kind() == kind) {
                scanner.advance();
            } else {
                fail(SYNTAX);
            }
        }

        /** Whether one more thing may stand within those that are open. */
        private boolean nest() {
            if (nesting >= MOST_NESTING) {
                fail(LIMIT);
                return false;
            }
            nesting++;
            return fault == 0;
        }

        private void push(int operation, int a, int b) {
            program.emit(operation, a, b);
            scopes.setDepth(scopes.depth() + 1);
        }

        /** The exp that was read last comes onto the stack as one value. */
        private void settle() {
            if (form == MEMBER) {
                program.emit(OP_MEMBER, 0, 0);
                scopes.setDepth(scopes.depth() - 1);
            } else if (form >= 0) {
                push(form, about, 0);
            }
            form = DONE;
        }

        /** The exp that was read last comes onto the stack with all its values, if it has more. */
        private void settleAll() {
            if (form == CALLED) {
                program.setSecond(about, WANT_ALL);
                form = DONE;
            } else if (form == EXTRA) {
                push(OP_EXTRAS, 0, 0);
                form = DONE;
            } else {
                settle();
            }
        }

        private void cut(int depth) {
            program.emit(OP_CUT, depth, 0);
            scopes.setDepth(depth);
        }

        private boolean blockEnds() {
            switch (scanner.kind()) {
                case T_END:
                case T_ENDS:
                case T_ELSE:
                case T_ELSEIF:
                case T_UNTIL:
                    return true;
                default:
                    return false;
            }
        }

        private void readBlock() {
            boolean open = true;
            for (int i = 0; i <= MOST_TEXT && open && !blockEnds(); i++) {
                if (scanner.kind() == T_RETURN) {
                    readReturn();
                    open = false;
                } else {
                    readStatement();
                }
            }
        }

        /** A block with a scope of its own. */
        private void readScope() {
            int left = scopes.shown[scopes.level];
            int depth = scopes.depth();
            readBlock();
            scopes.hide(left);
            cut(depth);
        }

        private void readReturn() {
            int start = scopes.depth();
            scanner.advance();
            if (beginsExp()) {
                readExps();
                settleAll();
            }
            program.emit(OP_RETURN, start, 0);
            scopes.setDepth(start);
            if (scanner.kind() == T_SEMICOLON) {
                scanner.advance();
            }
        }

        private void readStatement() {
            if (scanner.kind() == T_SEMICOLON) {
                scanner.advance();
                return;
            }
            program.emit(OP_FUEL, 0, 0);
            switch (scanner.kind()) {
                case T_DO:
                case T_WHILE:
                case T_REPEAT:
                case T_IF:
                case T_FOR:
                    if (nest()) {
                        readNested(scanner.kind());
                        nesting--;
                    }
                    break;
                case T_FUNCTION:
                    readNamedFunction();
                    break;
                case T_LOCAL:
                    readLocal();
                    break;
                case T_BREAK:
                    readBreak();
                    break;
                case T_NAME:
                case T_OPEN:
                    readCallOrSet();
                    break;
                default:
                    fail(SYNTAX);
                    break;
            }
        }

        private void readNested(int kind) {
            if (kind == T_IF) {
                readIf();
                return;
            }
            if (kind == T_DO) {
                scanner.advance();
                readScope();
                expect(T_ENDS);
                return;
            }
            int outerBreaks = breaks;
            int depth = scopes.depth();
            int left = scopes.shown[scopes.level];
            breaks = NO_JUMP;
            if (kind == T_FOR) {
                readFor(depth);
            } else if (kind == T_WHILE) {
                readWhile();
            } else {
                readRepeat(depth);
            }
            scopes.hide(left);
            program.landChain(breaks, program.size);
            cut(depth);
            breaks = outerBreaks;
        }

        private void readIf() {
            int exits = NO_JUMP;
            boolean more = true;
            for (int i = 0; i <= MOST_TEXT && more; i++) {
                scanner.advance();
                int skip = readTest(T_THEN);
                readScope();
                more = scanner.kind() == T_ELSEIF;
                if (more || scanner.kind() == T_ELSE) {
                    exits = program.emit(OP_JUMP, exits, 0);
                }
                program.setFirst(skip, program.size);
            }
            if (scanner.kind() == T_ELSE) {
                scanner.advance();
                readScope();
            }
            expect(T_ENDS);
            program.landChain(exits, program.size);
        }

        /** An exp that is tested, and the word behind it: where it is left if the exp is not true. */
        private int readTest(int word) {
            readExp(0);
            settle();
            expect(word);
            scopes.setDepth(scopes.depth() - 1);
            return program.emit(OP_UNLESS, 0, 0);
        }

        private void readLoopBlock() {
            scopes.loops[scopes.level]++;
            readScope();
            scopes.loops[scopes.level]--;
        }

        private void readWhile() {
            scanner.advance();
            int start = program.emit(OP_FUEL, 0, 0);
            int exit = readTest(T_DO);
            readLoopBlock();
            program.emit(OP_JUMP, start, 0);
            program.setFirst(exit, program.size);
            expect(T_ENDS);
        }

        private void readRepeat(int depth) {
            scanner.advance();
            int start = program.emit(OP_FUEL, 0, 0);
            scopes.loops[scopes.level]++;
            readBlock();
            scopes.loops[scopes.level]--;
            expect(T_UNTIL);
            readExp(0);
            settle();
            program.emit(OP_UNTIL, depth, start);
        }

        private void readFor(int depth) {
            boolean room = true;
            for (int i = 0; i < 3; i++) {
                room = room && scopes.declare(NAMELESS);
            }
            if (!room) {
                fail(LIMIT);
            }
            scopes.show(depth);
            scanner.advance();
            readName(0);
            if (scanner.kind() == T_SET) {
                readForNumbers(depth);
            } else {
                readForIn(depth);
            }
            expect(T_ENDS);
        }

        private void readForNumbers(int depth) {
            scanner.advance();
            readExp(0);
            settle();
            expect(T_COMMA);
            readExp(0);
            settle();
            if (scanner.kind() == T_COMMA) {
                scanner.advance();
                readExp(0);
                settle();
            } else {
                push(OP_NUMBER, 0, 1);
            }
            expect(T_DO);
            program.emit(OP_FOR_CHECK, depth, 0);
            int start = program.emit(OP_FUEL, 0, 0);
            int test = program.emit(OP_FOR_TEST, depth, 0);
            scopes.setDepth(depth + 4);
            scopes.show(depth + 3);
            readLoopBlock();
            program.emit(OP_FOR_NEXT, depth, start);
            program.setSecond(test, program.size);
        }

        private void readForIn(int depth) {
            int count = 1;
            for (int i = 0; i <= MOST_TEXT && scanner.kind() == T_COMMA; i++) {
                scanner.advance();
                readName(count);
                count++;
            }
            expect(T_IN);
            int given = readExps();
            adjust(depth, given, 3);
            expect(T_DO);
            int start = program.emit(OP_FUEL, 0, 0);
            program.emit(OP_FOR_CALL, depth, count);
            int test = program.emit(OP_FOR_GIVEN, depth, 0);
            scopes.setDepth(depth + 3 + count);
            scopes.show(depth + 3);
            readLoopBlock();
            program.emit(OP_CUT, depth + 3, 0);
            program.emit(OP_JUMP, start, 0);
            program.setSecond(test, program.size);
        }

        private void readBreak() {
            if (scopes.loops[scopes.level] == 0) {
                fail(RULE);
                return;
            }
            breaks = program.emit(OP_JUMP, breaks, 0);
            scanner.advance();
        }

        /** A name that is declared, behind so many others of its list. */
        private void readName(int others) {
            if (scanner.kind() != T_NAME) {
                fail(SYNTAX);
            } else if (others >= MOST_LISTED || !scopes.declare(scanner.string())) {
                fail(LIMIT);
            } else {
                scanner.advance();
            }
        }

        private void readLocal() {
            scanner.advance();
            if (scanner.kind() == T_FUNCTION) {
                readLocalFunction();
                return;
            }
            int start = scopes.depth();
            readName(0);
            int count = 1;
            for (int i = 0; i <= MOST_TEXT && scanner.kind() == T_COMMA; i++) {
                scanner.advance();
                readName(count);
                count++;
            }
            int given = 0;
            form = DONE;
            if (scanner.kind() == T_SET) {
                scanner.advance();
                given = readExps();
            }
            adjust(start, given, count);
            scopes.show(start);
        }

        private void readLocalFunction() {
            if (!nest()) {
                return;
            }
            scanner.advance();
            int slot = scopes.depth();
            readName(0);
            push(OP_PLAIN, NIL, 0);
            scopes.show(slot);
            readBody(false);
            program.emit(OP_SET_LOCAL, slot, slot + 1);
            cut(slot + 1);
            nesting--;
        }

        private void readNamedFunction() {
            if (!nest()) {
                return;
            }
            int depth = scopes.depth();
            boolean method = false;
            scanner.advance();
            readVariable();
            for (int i = 0; i <= MOST_TEXT && !method && (scanner.kind() == T_DOT || scanner.kind() == T_COLON); i++) {
                settle();
                method = scanner.kind() == T_COLON;
                scanner.advance();
                readMemberName();
            }
            int as = form;
            int at = form == MEMBER ? depth : about;
            readBody(method);
            emitSet(as, at, scopes.depth() - 1);
            cut(depth);
            nesting--;
        }

        private void emitSet(int as, int at, int from) {
            switch (as) {
                case OP_LOCAL:
                    program.emit(OP_SET_LOCAL, at, from);
                    break;
                case OP_KEPT:
                    program.emit(OP_SET_KEPT, at, from);
                    break;
                case OP_GLOBAL:
                    program.emit(OP_SET_GLOBAL, at, from);
                    break;
                default:
                    program.emit(OP_SET_MEMBER, at, from);
                    break;
            }
        }

        /** A name that stands for a variable or a global key. */
        private void readVariable() {
            if (scanner.kind() != T_NAME) {
                fail(SYNTAX);
            } else if (!scopes.find(scanner.string())) {
                fail(LIMIT);
            } else {
                form = scopes.foundAs;
                about = scopes.foundAt;
                scanner.advance();
            }
        }

        private void readMemberName() {
            if (scanner.kind() != T_NAME) {
                fail(SYNTAX);
                return;
            }
            push(OP_STRING, scanner.string(), 0);
            form = MEMBER;
            scanner.advance();
        }

        private void readBody(boolean method) {
            if (fault != 0 || !scopes.open()) {
                return;
            }
            int jump = program.emit(OP_JUMP, 0, 0);
            int body = program.addBody();
            if (method) {
                scopes.declare(selfName());
            }
            readParameters();
            int parameters = scopes.declared[scopes.level];
            scopes.show(0);
            scopes.setDepth(parameters);
            readBlock();
            expect(T_ENDS);
            endBody(body, parameters);
            scopes.close();
            program.setFirst(jump, program.size);
            push(OP_PROCEDURE, body, 0);
            form = DONE;
        }

        private int selfName() {
            strings.clear();
            strings.append('s');
            strings.append('e');
            strings.append('l');
            strings.append('f');
            return strings.add();
        }

        private void readParameters() {
            if (scanner.kind() != T_OPEN) {
                fail(SYNTAX);
                return;
            }
            if (!nest()) {
                return;
            }
            scanner.advance();
            boolean more = scanner.kind() != T_CLOSE;
            for (int i = 0; i <= MOST_TEXT && more; i++) {
                if (scanner.kind() == T_DOTS) {
                    scopes.extras[scopes.level] = true;
                    scanner.advance();
                    more = false;
                } else {
                    readName(i);
                    more = scanner.kind() == T_COMMA;
                    if (more) {
                        scanner.advance();
                    }
                }
            }
            expect(T_CLOSE);
            nesting--;
        }

        /** A body's last instruction, and what is known of it now. */
        private void endBody(int body, int parameters) {
            int level = scopes.level;
            program.emit(OP_RETURN, scopes.depth(), 0);
            program.setBody(body, Program.B_PARAMETERS, parameters);
            program.setBody(body, Program.B_EXTRA, scopes.extras[level] ? 1 : 0);
            program.setBody(body, Program.B_KEEPS_FROM, program.keepCount);
            program.setBody(body, Program.B_KEEPS, scopes.keepCounts[level]);
            program.setBody(body, Program.B_DEEPEST, scopes.deepest[level]);
            for (int i = 0; i < scopes.keepCounts[level]; i++) {
                program.addKeep(scopes.keeps[level * MOST_KEEPS + i]);
            }
        }

        private void readCallOrSet() {
            int depth = scopes.depth();
            readPrefix();
            if (form == CALLED) {
                program.setSecond(about, 0);
                scopes.setDepth(depth);
                form = DONE;
                return;
            }
            int first = targetTop;
            addTarget();
            for (int i = 1; i <= MOST_TEXT && scanner.kind() == T_COMMA; i++) {
                scanner.advance();
                if (i >= MOST_LISTED && (scanner.kind() == T_NAME || scanner.kind() == T_OPEN)) {
                    fail(LIMIT);
                }
                readPrefix();
                addTarget();
            }
            expect(T_SET);
            int start = scopes.depth();
            int count = (targetTop - first) / 2;
            int given = readExps();
            adjust(start, given, count);
            for (int i = count - 1; i >= 0; i--) {
                emitSet(targets[first + i * 2], targets[first + i * 2 + 1], start + i);
            }
            targetTop = first;
            cut(depth);
        }

        /** The prefix that was read last becomes a target: it must be one that can be set. */
        private void addTarget() {
            if (form < 0) {
                fail(SYNTAX);
            } else if (targetTop + 1 < targets.length) {
                targets[targetTop] = form;
                targets[targetTop + 1] = form == MEMBER ? scopes.depth() - 2 : about;
                targetTop += 2;
            }
            form = DONE;
        }

        private boolean beginsExp() {
            switch (scanner.kind()) {
                case T_NIL:
                case T_FALSE:
                case T_TRUE:
                case T_NUMBER:
                case T_STRING:
                case T_DOTS:
                case T_FUNCTION:
                case T_NAME:
                case T_OPEN:
                case T_BRACE:
                case T_NOT:
                case T_LENGTH:
                case T_MINUS:
                    return true;
                default:
                    return false;
            }
        }

        /** A list of exps, how many: the last one is not yet settled. */
        private int readExps() {
            readExp(0);
            int count = 1;
            for (int i = 0; i <= MOST_TEXT && scanner.kind() == T_COMMA; i++) {
                settle();
                scanner.advance();
                if (count >= MOST_LISTED && beginsExp()) {
                    fail(scanner.kind() == T_DOTS && !scopes.extras[scopes.level] ? RULE : LIMIT);
                }
                readExp(0);
                count++;
            }
            return count;
        }

        /** A list that begins at a slot, of which so many exps were read, is adjusted to a number. */
        private void adjust(int start, int given, int wanted) {
            boolean open = form == CALLED || form == EXTRA;
            settleAll();
            if (open || given != wanted) {
                program.emit(OP_ADJUST, start, wanted);
            }
            scopes.setDepth(start + wanted);
        }

        private static int strength(int kind) {
            switch (kind) {
                case T_OR:
                    return 1;
                case T_AND:
                    return 2;
                case T_LESS:
                case T_MORE:
                case T_AT_MOST:
                case T_AT_LEAST:
                case T_UNLIKE:
                case T_LIKE:
                    return 3;
                case T_JOIN:
                    return 4;
                case T_PLUS:
                case T_MINUS:
                    return 5;
                case T_STAR:
                case T_SLASHES:
                case T_PERCENT:
                    return 6;
                default:
                    return 0;
            }
        }

        private static int signOperation(int kind) {
            switch (kind) {
                case T_PLUS:
                    return OP_ADD;
                case T_MINUS:
                    return OP_SUBTRACT;
                case T_STAR:
                    return OP_MULTIPLY;
                case T_SLASHES:
                    return OP_DIVIDE;
                case T_PERCENT:
                    return OP_MODULO;
                case T_JOIN:
                    return OP_JOIN;
                case T_LESS:
                    return OP_LESS;
                case T_AT_MOST:
                    return OP_AT_MOST;
                case T_MORE:
                    return OP_MORE;
                case T_AT_LEAST:
                    return OP_AT_LEAST;
                case T_LIKE:
                    return OP_LIKE;
                default:
                    return OP_UNLIKE;
            }
        }

        /** An exp whose binary signs are all stronger than this. */
        private void readExp(int weakest) {
            if (scanner.kind() == T_NOT || scanner.kind() == T_LENGTH || scanner.kind() == T_MINUS) {
                readUnary();
            } else {
                readSimple();
            }
            for (int i = 0; i <= MOST_TEXT && strength(scanner.kind()) > weakest; i++) {
                readRightSide();
            }
        }

        private void readUnary() {
            int operation = scanner.kind() == T_NOT ? OP_NOT : scanner.kind() == T_LENGTH ? OP_LENGTH : OP_NEGATE;
            if (!nest()) {
                return;
            }
            scanner.advance();
            readExp(UNARY);
            settle();
            program.emit(operation, 0, 0);
            nesting--;
        }

        private void readRightSide() {
            int sign = scanner.kind();
            int strength = strength(sign);
            settle();
            if (!nest()) {
                return;
            }
            scanner.advance();
            if (sign == T_AND || sign == T_OR) {
                int jump = program.emit(sign == T_AND ? OP_AND : OP_OR, 0, 0);
                scopes.setDepth(scopes.depth() - 1);
                readExp(strength);
                settle();
                program.setFirst(jump, program.size);
            } else {
                readExp(sign == T_JOIN ? strength - 1 : strength);
                settle();
                program.emit(signOperation(sign), 0, 0);
                scopes.setDepth(scopes.depth() - 1);
            }
            nesting--;
        }

        private void readSimple() {
            switch (scanner.kind()) {
                case T_NIL:
                    readPlain(OP_PLAIN, NIL, 0);
                    break;
                case T_FALSE:
                    readPlain(OP_PLAIN, FALSE, 0);
                    break;
                case T_TRUE:
                    readPlain(OP_PLAIN, TRUE, 0);
                    break;
                case T_NUMBER:
                    readPlain(OP_NUMBER, (int) (scanner.number() >> 32), (int) scanner.number());
                    break;
                case T_STRING:
                    readPlain(OP_STRING, scanner.string(), 0);
                    break;
                case T_DOTS:
                    readExtra();
                    break;
                case T_FUNCTION:
                    if (nest()) {
                        scanner.advance();
                        readBody(false);
                        nesting--;
                    }
                    break;
                case T_BRACE:
                    readTable();
                    break;
                default:
                    readPrefix();
                    break;
            }
        }

        private void readPlain(int operation, int a, int b) {
            push(operation, a, b);
            form = DONE;
            scanner.advance();
        }

        private void readExtra() {
            if (!scopes.extras[scopes.level]) {
                fail(RULE);
                return;
            }
            form = EXTRA;
            about = 0;
            scanner.advance();
        }

        private void readPrefix() {
            if (scanner.kind() == T_OPEN) {
                readBracket(T_CLOSE);
            } else {
                readVariable();
            }
            boolean more = true;
            for (int i = 0; i <= MOST_TEXT && more; i++) {
                switch (scanner.kind()) {
                    case T_DOT:
                        settle();
                        scanner.advance();
                        readMemberName();
                        break;
                    case T_BRACKET:
                        settle();
                        readBracket(T_UNBRACKET);
                        form = MEMBER;
                        break;
                    case T_COLON:
                        settle();
                        readMethod();
                        break;
                    case T_OPEN:
                    case T_BRACE:
                    case T_STRING:
                        settle();
                        readArguments(OP_CALL, scopes.depth() - 1);
                        break;
                    default:
                        more = false;
                        break;
                }
            }
        }

        /** An exp in brackets, as one value. */
        private void readBracket(int closing) {
            if (!nest()) {
                return;
            }
            scanner.advance();
            readExp(0);
            settle();
            expect(closing);
            nesting--;
        }

        private void readMethod() {
            int slot = scopes.depth() - 1;
            scanner.advance();
            if (scanner.kind() != T_NAME) {
                fail(SYNTAX);
                return;
            }
            push(OP_METHOD, scanner.string(), 0);
            program.emit(OP_SWAP, 0, 0);
            scanner.advance();
            readArguments(OP_CALL_METHOD, slot);
        }

        private void readArguments(int operation, int slot) {
            if (scanner.kind() == T_STRING) {
                readPlain(OP_STRING, scanner.string(), 0);
            } else if (scanner.kind() == T_BRACE) {
                readTable();
            } else if (scanner.kind() != T_OPEN) {
                fail(SYNTAX);
            } else if (nest()) {
                scanner.advance();
                if (scanner.kind() != T_CLOSE) {
                    readExps();
                    settleAll();
                }
                expect(T_CLOSE);
                nesting--;
            }
            form = CALLED;
            about = program.emit(operation, slot, 1);
            scopes.setDepth(slot + 1);
        }

        private void readTable() {
            if (!nest()) {
                return;
            }
            int slot = scopes.depth();
            int index = 1;
            push(OP_TABLE, 0, 0);
            scanner.advance();
            boolean more = scanner.kind() != T_UNBRACE;
            for (int i = 0; i <= MOST_TEXT && more; i++) {
                boolean listed = readField(slot);
                more = scanner.kind() == T_COMMA || scanner.kind() == T_SEMICOLON;
                if (more) {
                    scanner.advance();
                    more = scanner.kind() != T_UNBRACE;
                }
                if (listed) {
                    emitPut(slot, index, !more);
                    index++;
                }
            }
            expect(T_UNBRACE);
            form = DONE;
            nesting--;
        }

        private void emitPut(int slot, int index, boolean last) {
            boolean open = last && (form == CALLED || form == EXTRA);
            if (open) {
                settleAll();
            } else {
                settle();
            }
            program.emit(open ? OP_PUT_ALL : OP_PUT, slot, index);
            scopes.setDepth(slot + 1);
        }

        /** A field: whether it is one without a name, which is not yet settled then. */
        private boolean readField(int slot) {
            boolean bracket = scanner.kind() == T_BRACKET;
            if (bracket) {
                readBracket(T_UNBRACKET);
                expect(T_SET);
            } else if (scanner.kind() == T_NAME && scanner.setFollows()) {
                push(OP_STRING, scanner.string(), 0);
                scanner.advance();
                scanner.advance();
            } else {
                readExp(0);
                return true;
            }
            readExp(0);
            settle();
            program.emit(OP_PUT_KEY, slot, 0);
            scopes.setDepth(slot + 1);
            return false;
        }
    }

    /**
     * Calls: how they begin, give their values, end by errors, stop and go on.
     * What is to be done next is a mode with its registers, so that nothing nests in Java.
     */
    static final class Calls {
        // What is done next.
        private static final int INSTRUCTING = 0;
        private static final int CALLING = 1;
        private static final int BUILDING_IN = 2;
        private static final int MAKING = 3;
        private static final int GIVING = 4;
        private static final int WAKING = 5;
        private static final int RAISING = 6;
        private static final int OVER = 7;

        private final Program program;
        private final Heap heap;
        private final Rows rows;
        private final Strings strings;
        private final Stack stack;
        private final Output output;
        private int mode;
        private int fuel;
        private int fault;
        // A call: the slot of what is called, with its arguments above, where its values go, and how many.
        private int callee;
        private int result;
        private int want;
        private int steps;
        // The values that a call gives.
        private int givenFrom;
        private int givenCount;
        // The error that is raised.
        private int errorTag;
        private long errorValue;
        // The strand that is to go on, and whether a wrapper asks for that.
        private int sleeper;
        private boolean wrapped;

        Calls(Program program, Heap heap, Stack stack, Output output) {
            this.program = program;
            this.heap = heap;
            this.rows = heap.rows;
            this.strings = heap.strings;
            this.stack = stack;
            this.output = output;
        }

        /** The text's own procedure is called: it has no cells, but its call has. */
        void begin(int startFuel) {
            fuel = startFuel;
            fault = 0;
            stack.push(NIL, 0);
            if (enterBody(0, 0, WANT_ALL, 1)) {
                mode = INSTRUCTING;
            }
        }

        void end() {
            heap.letGo();
        }

        void stop(int why) {
            fault = why;
            mode = OVER;
        }

        /** An error of the page. */
        void fail(int string) {
            raise(STRING, string);
        }

        void raise(int tag, long value) {
            errorTag = tag;
            errorValue = value;
            mode = RAISING;
        }

        /** False, and the run's end, if there is not so much fuel. */
        boolean burn(int amount) {
            if (fuel < amount) {
                stop(NO_FUEL);
                return false;
            }
            fuel -= amount;
            return true;
        }

        /** What stands at a slot is to be called with all that stands above it. */
        void call(int slot, int resultSlot, int wanted) {
            callee = slot;
            result = resultSlot;
            want = wanted;
            steps = 0;
            mode = CALLING;
        }

        /** The call that is at work is through, with the values from a slot on. */
        void give(int from, int size) {
            givenFrom = from;
            givenCount = size;
            mode = GIVING;
        }

        void giveOne(int tag, long value) {
            stack.push(tag, value);
            give(stack.top - 1, 1);
        }

        void giveTwo(int tag, long value, int otherTag, long otherValue) {
            stack.push(tag, value);
            stack.push(otherTag, otherValue);
            give(stack.top - 2, 2);
        }

        /** The string that has been put together is to be what the call gives, if it is not too long. */
        void giveString() {
            if (strings.size > MOST_STRING) {
                fail(S_TOO_LONG);
            } else {
                mode = MAKING;
            }
        }

        int arguments() {
            return stack.top - callee - 1;
        }

        void makeString() {
            if (!burn(strings.size / 16)) {
                return;
            }
            int string = heap.makeString();
            if (string < 0) {
                stop(MEMORY);
            } else {
                giveOne(STRING, string);
            }
        }

        void beginCall() {
            if (!burn(1)) {
                return;
            }
            if (!stack.reserve(0)) {
                stop(MEMORY);
                return;
            }
            switch (stack.tagAt(callee)) {
                case PROCEDURE:
                    beginProcedure();
                    break;
                case BUILT_IN:
                    mode = BUILDING_IN;
                    break;
                case WRAPPER:
                    wake(heap.ones[(int) stack.valueAt(callee)], true);
                    break;
                case TABLE:
                    beginTable();
                    break;
                default:
                    fail(S_NO_CALL);
                    break;
            }
        }

        /** A table's "__call" is called instead, with the table as the first argument. */
        private void beginTable() {
            int place = heap.metaPlace(TABLE, stack.valueAt(callee), S_CALL);
            if (place < 0) {
                fail(S_NO_CALL);
            } else if (steps >= MOST_STEPS) {
                fail(S_TOO_DEEP);
            } else {
                stack.copy(callee, callee + 1, stack.top - callee);
                stack.top++;
                stack.set(callee, rows.tagAt(place), rows.valueAt(place));
                steps++;
            }
        }

        private void beginProcedure() {
            int depth = stack.depth() + 1;
            if (depth > MOST_CALLS) {
                fail(S_TOO_DEEP);
            } else if (!heap.room(CALL_CELLS)) {
                stop(MEMORY);
            } else {
                int size = stack.top - callee;
                stack.copy(callee, result, size);
                stack.top = result + size;
                int body = heap.ones[(int) stack.valueAt(result)];
                if (enterBody(body, result, want, depth)) {
                    mode = INSTRUCTING;
                }
            }
        }

        /** A body begins; its procedure stands at a slot, its arguments above: they are adjusted. */
        private boolean enterBody(int body, int start, int wanted, int depth) {
            int parameters = program.bodyField(body, Program.B_PARAMETERS);
            int given = stack.top - start - 1;
            int extra = 0;
            if (!stack.reserve(program.bodyField(body, Program.B_DEEPEST) + given)
                    || !stack.pushFrame(Stack.OF_PROCEDURE, start, wanted, depth)) {
                stop(MEMORY);
                return false;
            }
            heap.used += CALL_CELLS;
            if (given > parameters && program.bodyField(body, Program.B_EXTRA) == 1) {
                extra = given - parameters;
                stack.copy(start + 1, stack.top, parameters);
                stack.copy(start + 1 + parameters, start + 1, given);
            } else {
                stack.adjust(start + 1, parameters);
            }
            stack.setFrameField(Stack.F_BASE, start + 1 + extra);
            stack.setFrameField(Stack.F_EXTRA, extra);
            stack.setFrameField(Stack.F_NEXT, program.bodyField(body, Program.B_ENTRY));
            return true;
        }

        /** What a call gave comes to what called it. */
        void deliver() {
            if (givenCount > MOST_VALUES) {
                stack.top = result;
                fail(S_TOO_MANY);
                return;
            }
            int kind = stack.frameField(Stack.F_KIND);
            if (kind == Stack.OF_PROCEDURE) {
                settle();
                mode = INSTRUCTING;
                return;
            }
            result = stack.frameField(Stack.F_START);
            want = stack.frameField(Stack.F_WANT);
            heap.used -= CALL_CELLS * stack.popFrames(stack.frameTop - 1);
            if (kind == Stack.OF_PCALL) {
                lead(TRUE);
            }
        }

        /** The values that are given get one ahead of them, where they go. */
        private void lead(int tag) {
            stack.copy(givenFrom, result + 1, givenCount);
            stack.set(result, tag, 0);
            give(result, givenCount + 1);
        }

        private void settle() {
            if (want == WANT_TRUE || want == WANT_FALSE) {
                boolean truth = givenCount > 0 && stack.tagAt(givenFrom) > FALSE;
                stack.set(result, truth == (want == WANT_TRUE) ? TRUE : FALSE, 0);
                stack.top = result + 1;
            } else {
                stack.copy(givenFrom, result, givenCount);
                stack.top = result + givenCount;
                if (want != WANT_ALL) {
                    stack.adjust(result, want);
                }
            }
        }

        /** A procedure is through, with the values from a slot on. */
        void leave(int from) {
            int size = stack.top - from;
            if (size > MOST_VALUES) {
                fail(S_TOO_MANY);
                return;
            }
            result = stack.frameField(Stack.F_START);
            want = stack.frameField(Stack.F_WANT);
            heap.used -= CALL_CELLS * stack.popFrames(stack.frameTop - 1);
            if (stack.frameTop > stack.frameFloor()) {
                give(from, size);
            } else if (stack.linkTop == 0) {
                stop(0);
            } else {
                heap.ones[stack.linkField(Stack.L_STRAND)] = Heap.DEAD;
                handOver(from, size);
            }
        }

        /** The strand that runs has stopped or ended, and the one that resumed it gets these values. */
        private void handOver(int from, int size) {
            boolean bare = unlink();
            give(from, size);
            if (!bare) {
                lead(TRUE);
            }
        }

        /** The one that resumed runs again, as if its call were through: whether a wrapper was called. */
        private boolean unlink() {
            boolean bare = stack.linkField(Stack.L_WRAPPED) == 1;
            result = stack.linkField(Stack.L_RESULT);
            want = stack.linkField(Stack.L_WANT);
            stack.top = stack.linkField(Stack.L_SLOTS);
            stack.linkTop--;
            if (stack.linkTop > 0) {
                heap.ones[stack.linkField(Stack.L_STRAND)] = Heap.RUNS;
            }
            return bare;
        }

        /** An error ends what it can: a protected call, a strand or the run. */
        void unwind() {
            int frame = stack.lastPcall();
            if (frame >= 0) {
                heap.used -= CALL_CELLS * stack.popFrames(frame + 1);
                result = stack.frameField(Stack.F_START);
                want = stack.frameField(Stack.F_WANT);
                heap.used -= CALL_CELLS * stack.popFrames(frame);
                giveError();
            } else if (stack.linkTop == 0) {
                writeError();
                stop(ERROR);
            } else {
                heap.used -= CALL_CELLS * stack.popFrames(stack.frameFloor());
                heap.ones[stack.linkField(Stack.L_STRAND)] = Heap.DEAD;
                if (!unlink()) {
                    giveError();
                }
            }
        }

        private void giveError() {
            stack.top = result;
            giveTwo(FALSE, 0, errorTag, errorValue);
        }

        private void writeError() {
            strings.clear();
            strings.append('!');
            strings.append(' ');
            strings.appendValue(errorTag, errorValue);
            strings.append(10);
            output.writeAll(strings.scratch, strings.size);
        }

        /** tostring, pcall, resume and yield. */
        void control(int builtIn) {
            switch (builtIn) {
                case B_TOSTRING:
                    tostring();
                    break;
                case B_PCALL:
                    pcall();
                    break;
                case B_RESUME:
                    resume();
                    break;
                default:
                    stopStrand();
                    break;
            }
        }

        private void tostring() {
            int given = arguments();
            int tag = given > 0 ? stack.tagAt(callee + 1) : NIL;
            long value = given > 0 ? stack.valueAt(callee + 1) : 0;
            int place = heap.metaPlace(tag, value, S_TOSTRING);
            if (place < 0) {
                strings.clear();
                strings.appendValue(tag, value);
                giveString();
            } else if (stack.openTostrings() >= MOST_STEPS) {
                fail(S_TOO_DEEP);
            } else if (!stack.pushFrame(Stack.OF_TOSTRING, result, want, stack.depth())) {
                stop(MEMORY);
            } else {
                int slot = stack.top;
                stack.push(rows.tagAt(place), rows.valueAt(place));
                stack.push(tag, value);
                call(slot, slot, WANT_ALL);
            }
        }

        private void pcall() {
            int depth = stack.depth() + 1;
            if (depth > MOST_CALLS) {
                fail(S_TOO_DEEP);
            } else if (!heap.room(CALL_CELLS) || !stack.pushFrame(Stack.OF_PCALL, result, want, depth)) {
                stop(MEMORY);
            } else {
                heap.used += CALL_CELLS;
                int slot = stack.top;
                int given = arguments();
                stack.copy(callee + 1, slot, given);
                stack.top += given;
                stack.adjust(slot, Math.max(given, 1));
                call(slot, slot, WANT_ALL);
            }
        }

        private void resume() {
            if (arguments() > 0 && stack.tagAt(callee + 1) == STRAND) {
                wake((int) stack.valueAt(callee + 1), false);
            } else {
                fail(S_BAD_VALUE);
            }
        }

        private void wake(int strand, boolean byWrapper) {
            sleeper = strand;
            wrapped = byWrapper;
            mode = WAKING;
        }

        void wakeUp() {
            int state = heap.ones[sleeper];
            if (state == Heap.DEAD) {
                refuse(S_DEAD_STRAND);
            } else if (state == Heap.RUNS || state == Heap.WAITS) {
                refuse(S_NO_STRAND);
            } else if (stack.linkTop >= MOST_WAITING) {
                fail(S_TOO_DEEP);
            } else if (state == Heap.NEW) {
                beginStrand();
            } else {
                goOn();
            }
        }

        private void refuse(int string) {
            if (wrapped) {
                fail(string);
            } else {
                giveTwo(FALSE, 0, STRING, string);
            }
        }

        private void beginStrand() {
            if (!burn(1)) {
                return;
            }
            if (!heap.room(CALL_CELLS)) {
                stop(MEMORY);
                return;
            }
            int from = callee + (wrapped ? 1 : 2);
            int given = stack.top - from;
            int procedure = heap.twos[sleeper];
            link();
            int start = stack.top;
            stack.push(PROCEDURE, procedure);
            stack.copy(from, start + 1, given);
            stack.top += given;
            if (enterBody(heap.ones[procedure], start, WANT_ALL, 1)) {
                mode = INSTRUCTING;
            }
        }

        private void goOn() {
            int from = callee + (wrapped ? 1 : 2);
            int given = stack.top - from;
            int floor = stack.top;
            int slot = stack.asideField(sleeper, Stack.K_RESULT);
            int wanted = stack.asideField(sleeper, Stack.K_WANT);
            link();
            if (!stack.bringBack()) {
                stop(MEMORY);
                return;
            }
            result = floor + slot;
            want = wanted;
            give(from, given);
        }

        /** The strand that is to go on runs, and the one that asked for it waits. */
        private void link() {
            if (stack.linkTop > 0) {
                heap.ones[stack.linkField(Stack.L_STRAND)] = Heap.WAITS;
            }
            stack.pushLink(sleeper, result, want, wrapped);
            heap.ones[sleeper] = Heap.RUNS;
        }

        /** yield: what it gives when its strand goes on comes to its slot then. */
        private void stopStrand() {
            if (stack.linkTop == 0 || stack.lastPcall() >= 0) {
                fail(S_NO_STRAND);
                return;
            }
            int from = callee + 1;
            int given = arguments();
            int strand = stack.linkField(Stack.L_STRAND);
            if (!stack.putAside(result, want)) {
                stop(MEMORY);
                return;
            }
            heap.ones[strand] = Heap.STOPPED;
            handOver(from, given);
        }
    }

    /** Does a program's instructions. */
    static final class Machine {
        // A run of all its fuel does far fewer: a text's longest round has not even 6000 instructions.
        private static final int MOST_TURNS = 1000000000;

        private final Program program;
        private final Calls calls;
        private final Heap heap;
        private final Rows rows;
        private final Strings strings;
        private final Stack stack;
        private final Library library;

        Machine(Program program, Calls calls, Heap heap, Library library) {
            this.program = program;
            this.calls = calls;
            this.heap = heap;
            this.rows = heap.rows;
            this.strings = heap.strings;
            this.stack = heap.stack;
            this.library = library;
        }

        void execute() {
            for (int turn = 0; turn < MOST_TURNS && calls.mode != Calls.OVER; turn++) {
                switch (calls.mode) {
                    case Calls.INSTRUCTING:
                        int at = stack.frameField(Stack.F_NEXT);
                        if (at < 0 || at + Program.OPERATION > program.size) {
                            calls.stop(ERROR);
                            break;
                        }
                        stack.setFrameField(Stack.F_NEXT, at + Program.OPERATION);
                        int operation = program.code[at];
                        if (operation <= OP_SWAP) {
                            push(operation, program.code[at + 1], program.code[at + 2]);
                        } else if (operation <= OP_PUT_ALL) {
                            store(operation, program.code[at + 1], program.code[at + 2]);
                        } else if (operation <= OP_RETURN) {
                            flow(operation, program.code[at + 1], program.code[at + 2]);
                        } else {
                            sign(operation);
                        }
                        break;
                    case Calls.CALLING:
                        calls.beginCall();
                        break;
                    case Calls.BUILDING_IN:
                        int builtIn = (int) stack.valueAt(calls.callee);
                        if (builtIn >= B_TOSTRING && builtIn < BUILT_INS) {
                            calls.control(builtIn);
                        } else {
                            library.perform(builtIn);
                        }
                        break;
                    case Calls.MAKING:
                        calls.makeString();
                        break;
                    case Calls.GIVING:
                        calls.deliver();
                        break;
                    case Calls.WAKING:
                        calls.wakeUp();
                        break;
                    default:
                        calls.unwind();
                        break;
                }
            }
        }

        private int base() {
            return stack.frameField(Stack.F_BASE);
        }

        private void push(int operation, int a, int b) {
            switch (operation) {
                case OP_PLAIN:
                    stack.push(a, 0);
                    break;
                case OP_NUMBER:
                    stack.push(NUMBER, (long) a << 32 | b & 0xFFFFFFFFL);
                    break;
                case OP_STRING:
                    stack.push(STRING, a);
                    break;
                case OP_LOCAL:
                    pushLocal(base() + a);
                    break;
                case OP_KEPT:
                    int variable = keptVariable(a);
                    stack.push(heap.ones[variable], heap.wides[variable]);
                    break;
                case OP_GLOBAL:
                    int place = rows.find(heap.globals, STRING, a);
                    stack.push(rows.tagAt(place), rows.valueAt(place));
                    break;
                case OP_EXTRA:
                    pushExtra();
                    break;
                case OP_EXTRAS:
                    int extra = stack.frameField(Stack.F_EXTRA);
                    stack.copy(base() - extra, stack.top, extra);
                    stack.top += extra;
                    break;
                case OP_TABLE:
                    int table = heap.makeTable();
                    if (table < 0) {
                        calls.stop(MEMORY);
                    } else {
                        stack.push(TABLE, table);
                    }
                    break;
                case OP_PROCEDURE:
                    pushProcedure(a);
                    break;
                case OP_MEMBER:
                    getMember(stack.top - 2);
                    break;
                case OP_METHOD:
                    stack.push(stack.tagAt(stack.top - 1), stack.valueAt(stack.top - 1));
                    stack.push(STRING, a);
                    getMember(stack.top - 2);
                    break;
                default:
                    swap(stack.top - 2);
                    break;
            }
        }

        private void pushLocal(int slot) {
            int tag = stack.tagAt(slot);
            long value = stack.valueAt(slot);
            if (tag == KEPT) {
                stack.push(heap.ones[(int) value], heap.wides[(int) value]);
            } else {
                stack.push(tag, value);
            }
        }

        private int keptVariable(int index) {
            int procedure = (int) stack.valueAt(stack.frameField(Stack.F_START));
            return Math.max(0, heap.keptBy(procedure, index));
        }

        private void pushExtra() {
            int extra = stack.frameField(Stack.F_EXTRA);
            int slot = base() - extra;
            stack.push(extra > 0 ? stack.tagAt(slot) : NIL, extra > 0 ? stack.valueAt(slot) : 0);
        }

        private void swap(int slot) {
            int tag = stack.tagAt(slot);
            long value = stack.valueAt(slot);
            stack.set(slot, stack.tagAt(slot + 1), stack.valueAt(slot + 1));
            stack.set(slot + 1, tag, value);
        }

        /** A procedure is made, together with the variables that it is the first to keep. */
        private void pushProcedure(int body) {
            int keeps = program.bodyField(body, Program.B_KEEPS);
            heap.room(PROCEDURE_CELLS + keeps + KEPT_CELLS * firstKept(body, keeps));
            // That may have let go of variables that none kept any more: so they are counted anew.
            if (!heap.room(PROCEDURE_CELLS + keeps + KEPT_CELLS * firstKept(body, keeps))) {
                calls.stop(MEMORY);
                return;
            }
            int procedure = heap.makeProcedure(body);
            if (procedure < 0) {
                calls.stop(MEMORY);
                return;
            }
            for (int i = keeps - 1; i >= 0; i--) {
                int keep = program.keepAt(body, i);
                int variable = keep % 2 == 1 ? heap.makeKept(base() + keep / 2) : keptVariable(keep / 2);
                heap.keep(procedure, variable);
            }
            stack.push(PROCEDURE, procedure);
        }

        /** How many of the variables that a body keeps no procedure keeps yet. */
        private int firstKept(int body, int keeps) {
            int first = 0;
            for (int i = 0; i < keeps; i++) {
                int keep = program.keepAt(body, i);
                if (keep % 2 == 1 && stack.tagAt(base() + keep / 2) != KEPT) {
                    first++;
                }
            }
            return first;
        }

        private static boolean isCallable(int tag) {
            return tag == PROCEDURE || tag == BUILT_IN || tag == WRAPPER;
        }

        /** The member of what stands at a slot, with the key above: it comes to that slot. */
        private void getMember(int slot) {
            int tag = stack.tagAt(slot);
            long value = stack.valueAt(slot);
            int keyTag = stack.tagAt(slot + 1);
            long key = stack.valueAt(slot + 1);
            for (int step = 0; step <= MOST_STEPS; step++) {
                if (tag != TABLE) {
                    calls.fail(S_NO_TABLE);
                    return;
                }
                int place = rows.findValue((int) value, keyTag, key);
                int answer = place >= 0 ? -1 : heap.metaPlace(tag, value, S_INDEX);
                if (answer < 0) {
                    stack.set(slot, rows.tagAt(place), rows.valueAt(place));
                    stack.top = slot + 1;
                    return;
                }
                if (isCallable(rows.tagAt(answer))) {
                    // What was asked first stays below till a procedure's call has begun.
                    int start = step == 0 ? slot : slot + 2;
                    stack.set(start, rows.tagAt(answer), rows.valueAt(answer));
                    stack.set(start + 1, tag, value);
                    stack.set(start + 2, keyTag, key);
                    stack.top = start + 3;
                    calls.call(start, slot, 1);
                    return;
                }
                tag = rows.tagAt(answer);
                value = rows.valueAt(answer);
            }
            calls.fail(S_TOO_DEEP);
        }

        private void store(int operation, int a, int b) {
            int from = base() + b;
            switch (operation) {
                case OP_SET_LOCAL:
                    setLocal(base() + a, from);
                    break;
                case OP_SET_KEPT:
                    setKept(keptVariable(a), from);
                    break;
                case OP_SET_GLOBAL:
                    if (!heap.put(heap.globals, STRING, a, stack.tagAt(from), stack.valueAt(from))) {
                        calls.stop(MEMORY);
                    }
                    break;
                case OP_SET_MEMBER:
                    setMember(base() + a, from);
                    break;
                case OP_PUT_KEY:
                    putNamed(base() + a);
                    break;
                default:
                    putValues(base() + a, b);
                    break;
            }
        }

        private void setLocal(int slot, int from) {
            if (stack.tagAt(slot) == KEPT) {
                setKept((int) stack.valueAt(slot), from);
            } else {
                stack.set(slot, stack.tagAt(from), stack.valueAt(from));
            }
        }

        private void setKept(int variable, int from) {
            heap.ones[variable] = stack.tagAt(from);
            heap.wides[variable] = stack.valueAt(from);
        }

        /** The member of what stands at a slot, with the key above, is set to what stands at another. */
        private void setMember(int slot, int from) {
            int tag = stack.tagAt(slot);
            long value = stack.valueAt(slot);
            int keyTag = stack.tagAt(slot + 1);
            long key = stack.valueAt(slot + 1);
            for (int step = 0; step <= MOST_STEPS; step++) {
                if (tag != TABLE) {
                    calls.fail(S_NO_TABLE);
                    return;
                }
                int place = rows.findValue((int) value, keyTag, key);
                int answer = place >= 0 ? -1 : heap.metaPlace(tag, value, S_NEWINDEX);
                if (answer < 0) {
                    if (keyTag == NIL) {
                        calls.fail(S_NIL_KEY);
                    } else if (!heap.put((int) value, keyTag, key, stack.tagAt(from), stack.valueAt(from))) {
                        calls.stop(MEMORY);
                    }
                    return;
                }
                if (isCallable(rows.tagAt(answer))) {
                    int start = stack.top;
                    stack.push(rows.tagAt(answer), rows.valueAt(answer));
                    stack.push(tag, value);
                    stack.push(keyTag, key);
                    stack.push(stack.tagAt(from), stack.valueAt(from));
                    calls.call(start, start, 0);
                    return;
                }
                tag = rows.tagAt(answer);
                value = rows.valueAt(answer);
            }
            calls.fail(S_TOO_DEEP);
        }

        /** Values are put one by one into a table that is being made, a NIL not at all. */
        private void putValues(int slot, int index) {
            for (int from = slot + 1; from < stack.top; from++) {
                int tag = stack.tagAt(from);
                int key = index + from - slot - 1;
                if (tag != NIL && !heap.put((int) stack.valueAt(slot), NUMBER, key, tag, stack.valueAt(from))) {
                    calls.stop(MEMORY);
                    return;
                }
            }
            stack.top = slot + 1;
        }

        private void putNamed(int slot) {
            int key = stack.top - 2;
            int value = stack.top - 1;
            if (stack.tagAt(key) == NIL) {
                calls.fail(S_NIL_KEY);
            } else if (stack.tagAt(value) != NIL && !heap.put((int) stack.valueAt(slot), stack.tagAt(key),
                    stack.valueAt(key), stack.tagAt(value), stack.valueAt(value))) {
                calls.stop(MEMORY);
            }
            stack.top = key;
        }

        private void flow(int operation, int a, int b) {
            switch (operation) {
                case OP_FUEL:
                    calls.burn(1);
                    break;
                case OP_CUT:
                    stack.top = base() + a;
                    break;
                case OP_ADJUST:
                    if (stack.top - base() - a > MOST_VALUES) {
                        calls.fail(S_TOO_MANY);
                    } else {
                        stack.adjust(base() + a, b);
                    }
                    break;
                case OP_JUMP:
                    jump(a);
                    break;
                case OP_UNLESS:
                    stack.top--;
                    jumpIf(stack.tagAt(stack.top) <= FALSE, a);
                    break;
                case OP_AND:
                case OP_OR:
                    shortCut(operation == OP_OR, a);
                    break;
                case OP_UNTIL:
                    boolean untrue = stack.tagAt(stack.top - 1) <= FALSE;
                    stack.top = base() + a;
                    jumpIf(untrue, b);
                    break;
                case OP_FOR_CHECK:
                    checkFor(base() + a);
                    break;
                case OP_FOR_TEST:
                    testFor(base() + a, b);
                    break;
                case OP_FOR_NEXT:
                    nextFor(base() + a, b);
                    break;
                case OP_FOR_CALL:
                    callFor(base() + a, b);
                    break;
                case OP_FOR_GIVEN:
                    lookAtGiven(base() + a, b);
                    break;
                case OP_CALL:
                case OP_CALL_METHOD:
                    callSlot(base() + a, b, operation == OP_CALL ? MOST_VALUES : MOST_VALUES + 1);
                    break;
                default:
                    calls.leave(base() + a);
                    break;
            }
        }

        private void jump(int target) {
            stack.setFrameField(Stack.F_NEXT, target);
        }

        private void jumpIf(boolean so, int target) {
            if (so) {
                stack.setFrameField(Stack.F_NEXT, target);
            }
        }

        /** The left operand of and, or: it stays, and the right side is left out, or it goes. */
        private void shortCut(boolean ifTrue, int target) {
            if (stack.tagAt(stack.top - 1) > FALSE == ifTrue) {
                stack.setFrameField(Stack.F_NEXT, target);
            } else {
                stack.top--;
            }
        }

        private void callSlot(int slot, int wanted, int most) {
            if (stack.top - slot - 1 > most) {
                calls.fail(S_TOO_MANY);
            } else {
                calls.call(slot, slot, wanted);
            }
        }

        private void checkFor(int slot) {
            boolean numbers = true;
            for (int i = 0; i < 3; i++) {
                numbers = numbers && stack.tagAt(slot + i) == NUMBER;
            }
            if (!numbers) {
                calls.fail(S_NO_NUMBER);
            } else if (stack.valueAt(slot + 2) == 0) {
                calls.fail(S_ZERO_STEP);
            }
        }

        private void testFor(int slot, int exit) {
            long now = stack.valueAt(slot);
            long last = stack.valueAt(slot + 1);
            boolean on = stack.valueAt(slot + 2) > 0 ? now <= last : now >= last;
            if (on && stack.tagAt(slot) == NUMBER) {
                stack.push(NUMBER, now);
            } else {
                stack.setFrameField(Stack.F_NEXT, exit);
            }
        }

        private void nextFor(int slot, int start) {
            long now = stack.valueAt(slot);
            long step = stack.valueAt(slot + 2);
            boolean wraps = step > 0 ? now > Long.MAX_VALUE - step : now < Long.MIN_VALUE - step;
            // A number no more: the round that would wrap is none, but takes its fuel.
            stack.set(slot, wraps ? NIL : NUMBER, now + step);
            stack.top = slot + 3;
            stack.setFrameField(Stack.F_NEXT, start);
        }

        private void callFor(int slot, int names) {
            stack.copy(slot, slot + 3, 3);
            stack.top = slot + 6;
            calls.call(slot + 3, slot + 3, names);
        }

        private void lookAtGiven(int slot, int exit) {
            if (stack.tagAt(slot + 3) == NIL) {
                stack.setFrameField(Stack.F_NEXT, exit);
            } else {
                stack.copy(slot + 3, slot + 2, 1);
            }
        }

        private void sign(int operation) {
            int slot = operation == OP_NOT || operation == OP_LENGTH || operation == OP_NEGATE ? stack.top - 1 : stack.top - 2;
            boolean done = true;
            switch (operation) {
                case OP_JOIN:
                    done = join(slot);
                    break;
                case OP_LESS:
                case OP_AT_MOST:
                    done = compare(slot, operation == OP_LESS);
                    break;
                case OP_MORE:
                case OP_AT_LEAST:
                    swap(slot);
                    done = compare(slot, operation == OP_MORE);
                    break;
                case OP_LIKE:
                case OP_UNLIKE:
                    done = compareLike(slot, operation == OP_LIKE);
                    break;
                case OP_NOT:
                    stack.set(slot, stack.tagAt(slot) > FALSE ? FALSE : TRUE, 0);
                    break;
                case OP_LENGTH:
                    done = measure(slot);
                    break;
                case OP_NEGATE:
                    done = negate(slot);
                    break;
                default:
                    done = calculate(slot, operation);
                    break;
            }
            if (!done) {
                askMeta(slot, operation);
            }
        }

        /** The signs of two numbers; false, here and below, if a meta table must answer. */
        private boolean calculate(int slot, int operation) {
            if (stack.tagAt(slot) != NUMBER || stack.tagAt(slot + 1) != NUMBER) {
                return false;
            }
            long left = stack.valueAt(slot);
            long right = stack.valueAt(slot + 1);
            if (right == 0 && (operation == OP_DIVIDE || operation == OP_MODULO)) {
                calls.fail(S_ZERO_DIVISION);
                return true;
            }
            stack.top = slot + 1;
            switch (operation) {
                case OP_ADD:
                    stack.set(slot, NUMBER, left + right);
                    break;
                case OP_SUBTRACT:
                    stack.set(slot, NUMBER, left - right);
                    break;
                case OP_MULTIPLY:
                    stack.set(slot, NUMBER, left * right);
                    break;
                case OP_DIVIDE:
                    stack.set(slot, NUMBER, Math.floorDiv(left, right));
                    break;
                default:
                    stack.set(slot, NUMBER, Math.floorMod(left, right));
                    break;
            }
            return true;
        }

        private boolean join(int slot) {
            int left = stack.tagAt(slot);
            int right = stack.tagAt(slot + 1);
            if (left != STRING && left != NUMBER || right != STRING && right != NUMBER) {
                return false;
            }
            strings.clear();
            strings.appendValue(left, stack.valueAt(slot));
            strings.appendValue(right, stack.valueAt(slot + 1));
            calls.result = slot;
            calls.want = 1;
            calls.giveString();
            return true;
        }

        private boolean compare(int slot, boolean less) {
            int tag = stack.tagAt(slot);
            if (tag != stack.tagAt(slot + 1) || tag != NUMBER && tag != STRING) {
                return false;
            }
            long left = stack.valueAt(slot);
            long right = stack.valueAt(slot + 1);
            boolean so;
            if (tag == NUMBER) {
                so = less ? left < right : left <= right;
            } else {
                so = less ? strings.isBelow((int) left, (int) right) : !strings.isBelow((int) right, (int) left);
            }
            stack.set(slot, so ? TRUE : FALSE, 0);
            stack.top = slot + 1;
            return true;
        }

        private boolean compareLike(int slot, boolean like) {
            int tag = stack.tagAt(slot);
            boolean same = tag == stack.tagAt(slot + 1) && stack.valueAt(slot) == stack.valueAt(slot + 1);
            if (!same && tag == TABLE && stack.tagAt(slot + 1) == TABLE && metaOfEither(slot, S_EQ) >= 0) {
                return false;
            }
            stack.set(slot, same == like ? TRUE : FALSE, 0);
            stack.top = slot + 1;
            return true;
        }

        private boolean measure(int slot) {
            int tag = stack.tagAt(slot);
            int object = (int) stack.valueAt(slot);
            if (tag == STRING) {
                stack.set(slot, NUMBER, strings.lengths[object]);
                return true;
            }
            if (tag == TABLE && heap.metaPlace(tag, object, S_LEN) < 0) {
                stack.set(slot, NUMBER, rows.length(object));
                return true;
            }
            // A unary sign's operand is both of the two that are called with.
            stack.push(tag, object);
            return false;
        }

        private boolean negate(int slot) {
            if (stack.tagAt(slot) == NUMBER) {
                stack.set(slot, NUMBER, -stack.valueAt(slot));
                return true;
            }
            stack.push(stack.tagAt(slot), stack.valueAt(slot));
            return false;
        }

        private int metaOfEither(int slot, int name) {
            int place = heap.metaPlace(stack.tagAt(slot), stack.valueAt(slot), name);
            return place >= 0 ? place : heap.metaPlace(stack.tagAt(slot + 1), stack.valueAt(slot + 1), name);
        }

        /** What a meta table has for a sign is called with both operands, which stand at a slot. */
        private void askMeta(int slot, int operation) {
            int place = metaOfEither(slot, metaName(operation));
            if (place < 0) {
                calls.fail(complaint(operation));
                return;
            }
            stack.copy(slot, slot + 1, 2);
            stack.top = slot + 3;
            stack.set(slot, rows.tagAt(place), rows.valueAt(place));
            boolean compared = operation >= OP_LESS && operation <= OP_UNLIKE;
            calls.call(slot, slot, operation == OP_UNLIKE ? WANT_FALSE : compared ? WANT_TRUE : 1);
        }

        private static int metaName(int operation) {
            switch (operation) {
                case OP_LESS:
                case OP_MORE:
                    return S_LT;
                case OP_AT_MOST:
                case OP_AT_LEAST:
                    return S_LE;
                case OP_LIKE:
                case OP_UNLIKE:
                    return S_EQ;
                case OP_LENGTH:
                    return S_LEN;
                case OP_NEGATE:
                    return S_UNM;
                default:
                    return S_ADD + operation - OP_ADD;
            }
        }

        /** The error of a sign that no meta table answers for. */
        private static int complaint(int operation) {
            switch (operation) {
                case OP_JOIN:
                    return S_NO_STRING;
                case OP_LESS:
                case OP_AT_MOST:
                case OP_MORE:
                case OP_AT_LEAST:
                    return S_NO_ORDER;
                case OP_LENGTH:
                    return S_NO_LENGTH;
                default:
                    return S_NO_NUMBER;
            }
        }
    }

    /** The built-in ones that neither call nor stop. */
    static final class Library {
        private final Calls calls;
        private final Heap heap;
        private final Rows rows;
        private final Strings strings;
        private final Stack stack;
        private final Output output;

        Library(Calls calls, Heap heap, Output output) {
            this.calls = calls;
            this.heap = heap;
            this.rows = heap.rows;
            this.strings = heap.strings;
            this.stack = heap.stack;
            this.output = output;
        }

        void perform(int builtIn) {
            switch (builtIn) {
                case B_PRINT: print(); break;
                case B_TYPE: calls.giveOne(STRING, typeName(tag(0))); break;
                case B_TONUMBER: tonumber(); break;
                case B_RAWGET: rawget(); break;
                case B_RAWSET: rawset(); break;
                case B_RAWEQUAL: giveTruth(tag(0) == tag(1) && value(0) == value(1)); break;
                case B_RAWLEN: rawlen(); break;
                case B_SETMETATABLE: setmetatable(); break;
                case B_GETMETATABLE: getmetatable(); break;
                case B_NEXT: next(); break;
                case B_PAIRS: pairs(); break;
                case B_IPAIRS: ipairs(); break;
                case B_NEXT_INDEX: nextIndex(); break;
                case B_ERROR: calls.raise(tag(0), value(0)); break;
                case B_ASSERT: check(); break;
                case B_SELECT: select(); break;
                case B_UNPACK: unpack(); break;
                case B_SUB: sub(); break;
                case B_BYTE: byteOf(); break;
                case B_CHAR: character(); break;
                case B_REP: rep(); break;
                case B_CONCAT: concat(); break;
                case B_INSERT: insert(); break;
                case B_REMOVE: remove(); break;
                case B_CREATE: create(); break;
                case B_WRAP: wrap(); break;
                case B_STATUS: status(); break;
                case B_RUNNING: running(); break;
                case B_COUNT: cells(); break;
                default: calls.fail(S_NO_CALL); break;
            }
        }

        private int tag(int index) {
            return index < calls.arguments() ? stack.tagAt(calls.callee + 1 + index) : NIL;
        }

        private long value(int index) {
            return index < calls.arguments() ? stack.valueAt(calls.callee + 1 + index) : 0;
        }

        private boolean isNumberOrNil(int index) {
            return tag(index) == NUMBER || tag(index) == NIL;
        }

        private void refuse() {
            calls.fail(S_BAD_VALUE);
        }

        private void giveNumber(long number) {
            calls.giveOne(NUMBER, number);
        }

        private void giveTruth(boolean so) {
            calls.giveOne(so ? TRUE : FALSE, 0);
        }

        private void giveNil() {
            calls.giveOne(NIL, 0);
        }

        private void giveNothing() {
            calls.give(stack.top, 0);
        }

        private void print() {
            for (int i = 0; i < calls.arguments(); i++) {
                if (i > 0) {
                    output.write(' ');
                }
                strings.clear();
                strings.appendValue(tag(i), value(i));
                output.writeAll(strings.scratch, strings.size);
            }
            output.write(10);
            giveNothing();
        }

        private static int typeName(int tag) {
            switch (tag) {
                case NIL:
                    return S_NIL;
                case FALSE:
                case TRUE:
                    return S_BOOLEAN;
                case NUMBER:
                    return S_NUMBER;
                case STRING:
                    return S_STRING;
                case TABLE:
                    return S_TABLE;
                case STRAND:
                    return S_STRAND;
                default:
                    return S_FUNCTION;
            }
        }

        private void tonumber() {
            int string = (int) value(0);
            if (tag(0) == NUMBER) {
                giveNumber(value(0));
            } else if (tag(0) == STRING && strings.isNumeral(string)) {
                giveNumber(strings.numeral(string));
            } else {
                giveNil();
            }
        }

        private void givePlace(int place) {
            calls.giveOne(rows.tagAt(place), rows.valueAt(place));
        }

        private void rawget() {
            if (tag(0) != TABLE) {
                refuse();
            } else {
                givePlace(rows.find((int) value(0), tag(1), value(1)));
            }
        }

        private void rawset() {
            if (tag(0) != TABLE) {
                refuse();
            } else if (tag(1) == NIL) {
                calls.fail(S_NIL_KEY);
            } else if (!heap.put((int) value(0), tag(1), value(1), tag(2), value(2))) {
                calls.stop(MEMORY);
            } else {
                calls.giveOne(TABLE, value(0));
            }
        }

        private void rawlen() {
            int object = (int) value(0);
            if (tag(0) == TABLE) {
                giveNumber(rows.length(object));
            } else if (tag(0) == STRING) {
                giveNumber(strings.lengths[object]);
            } else {
                refuse();
            }
        }

        private void setmetatable() {
            if (tag(0) != TABLE || tag(1) != TABLE && tag(1) != NIL) {
                refuse();
                return;
            }
            heap.ones[(int) value(0)] = tag(1) == TABLE ? (int) value(1) : -1;
            calls.giveOne(TABLE, value(0));
        }

        private void getmetatable() {
            int meta = tag(0) == TABLE ? heap.ones[(int) value(0)] : -1;
            if (meta < 0) {
                giveNil();
            } else {
                calls.giveOne(TABLE, meta);
            }
        }

        private void next() {
            if (tag(0) != TABLE) {
                refuse();
                return;
            }
            int table = (int) value(0);
            int place = rows.firsts[table];
            if (tag(1) != NIL) {
                place = rows.find(table, tag(1), value(1));
                if (place < 0) {
                    calls.fail(S_NO_KEY);
                    return;
                }
                place = rows.nexts[place];
            }
            place = rows.withValue(place);
            if (place < 0) {
                giveNil();
            } else {
                calls.giveTwo(rows.keyTags[place], rows.keys[place], rows.valueTags[place], rows.values[place]);
            }
        }

        private void giveThree(int builtIn, int lastTag) {
            stack.push(BUILT_IN, builtIn);
            stack.push(TABLE, stack.valueAt(calls.callee + 1));
            stack.push(lastTag, 0);
            calls.give(stack.top - 3, 3);
        }

        private void pairs() {
            if (tag(0) != TABLE) {
                refuse();
            } else {
                giveThree(B_NEXT, NIL);
            }
        }

        private void ipairs() {
            if (tag(0) != TABLE) {
                refuse();
            } else {
                giveThree(B_NEXT_INDEX, NUMBER);
            }
        }

        private void nextIndex() {
            if (tag(0) != TABLE || tag(1) != NUMBER) {
                refuse();
                return;
            }
            long index = value(1) + 1;
            int place = rows.findValue((int) value(0), NUMBER, index);
            if (place < 0) {
                giveNil();
            } else {
                calls.giveTwo(NUMBER, index, rows.tagAt(place), rows.valueAt(place));
            }
        }

        private void check() {
            if (tag(0) > FALSE) {
                calls.give(calls.callee + 1, calls.arguments());
            } else if (tag(1) == NIL) {
                calls.fail(S_ASSERTION);
            } else {
                calls.raise(tag(1), value(1));
            }
        }

        private void select() {
            int others = calls.arguments() - 1;
            if (tag(0) == STRING && value(0) == S_HOW_MANY) {
                giveNumber(others);
            } else if (tag(0) != NUMBER || value(0) < 1) {
                refuse();
            } else {
                int left = (int) Math.max(0, others - value(0) + 1);
                calls.give(stack.top - left, left);
            }
        }

        private void unpack() {
            if (tag(0) != TABLE || !isNumberOrNil(1) || !isNumberOrNil(2)) {
                refuse();
                return;
            }
            int table = (int) value(0);
            long first = tag(1) == NIL ? 1 : value(1);
            long last = tag(2) == NIL ? rows.length(table) : value(2);
            long beyond = last - first;
            if (first > last) {
                giveNothing();
            } else if (beyond < 0 || beyond >= MOST_VALUES) {
                // Below 0 it has wrapped, so far are the two from one another.
                calls.fail(S_TOO_MANY);
            } else {
                for (int i = 0; i <= beyond; i++) {
                    int place = rows.findValue(table, NUMBER, first + i);
                    stack.push(rows.tagAt(place), rows.valueAt(place));
                }
                calls.give(stack.top - (int) beyond - 1, (int) beyond + 1);
            }
        }

        private void sub() {
            if (tag(0) != STRING || tag(1) != NUMBER || !isNumberOrNil(2)) {
                refuse();
                return;
            }
            int string = (int) value(0);
            int length = strings.lengths[string];
            long first = value(1);
            long last = tag(2) == NIL ? length : value(2);
            if (first < 0) {
                first = Math.max(first, -length - 1) + length + 1;
            }
            if (last < 0) {
                last = Math.max(last, -length - 1) + length + 1;
            }
            int from = (int) Math.min(Math.max(first, 1), length + 1);
            int to = (int) Math.min(last, length);
            strings.clear();
            strings.appendPart(string, from - 1, to);
            calls.giveString();
        }

        private void byteOf() {
            if (tag(0) != STRING || !isNumberOrNil(1)) {
                refuse();
                return;
            }
            int string = (int) value(0);
            long index = tag(1) == NIL ? 1 : value(1);
            if (index < 1 || index > strings.lengths[string]) {
                giveNil();
            } else {
                giveNumber(strings.byteOf(string, (int) index - 1));
            }
        }

        private void character() {
            strings.clear();
            for (int i = 0; i < calls.arguments(); i++) {
                if (tag(i) != NUMBER || value(i) < 0 || value(i) > 255) {
                    refuse();
                    return;
                }
                strings.append((int) value(i));
            }
            calls.giveString();
        }

        private void rep() {
            if (tag(0) != STRING || tag(1) != NUMBER) {
                refuse();
                return;
            }
            int string = (int) value(0);
            int length = strings.lengths[string];
            long times = length == 0 ? 0 : Math.min(Math.max(value(1), 0), MOST_STRING + 1);
            if (times * length > MOST_STRING) {
                calls.fail(S_TOO_LONG);
                return;
            }
            strings.clear();
            for (int i = 0; i < times; i++) {
                strings.appendString(string);
            }
            calls.giveString();
        }

        private void concat() {
            if (tag(0) != TABLE || tag(1) != STRING && tag(1) != NIL) {
                refuse();
                return;
            }
            int table = (int) value(0);
            int length = rows.length(table);
            strings.clear();
            for (int i = 1; i <= length; i++) {
                int place = rows.findValue(table, NUMBER, i);
                if (rows.tagAt(place) != STRING && rows.tagAt(place) != NUMBER) {
                    refuse();
                    return;
                }
                if (i > 1 && tag(1) == STRING) {
                    strings.appendString((int) value(1));
                }
                strings.appendValue(rows.tagAt(place), rows.valueAt(place));
            }
            calls.giveString();
        }

        private void insert() {
            int given = calls.arguments();
            int length = tag(0) == TABLE ? rows.length((int) value(0)) : 0;
            boolean behind = given == 2;
            long index = behind ? length + 1 : value(1);
            if (tag(0) != TABLE || given < 2 || given > 3 || !behind && tag(1) != NUMBER || index < 1 || index > length + 1) {
                refuse();
                return;
            }
            int table = (int) value(0);
            boolean room = true;
            for (int i = length; i >= index && room; i--) {
                int place = rows.findValue(table, NUMBER, i);
                room = heap.put(table, NUMBER, i + 1, rows.tagAt(place), rows.valueAt(place));
            }
            int last = given - 1;
            if (room && heap.put(table, NUMBER, index, tag(last), value(last))) {
                giveNothing();
            } else {
                calls.stop(MEMORY);
            }
        }

        private void remove() {
            int length = tag(0) == TABLE ? rows.length((int) value(0)) : 0;
            long index = tag(1) == NIL ? length : value(1);
            boolean none = tag(1) == NIL && length == 0;
            if (tag(0) != TABLE || !isNumberOrNil(1) || !none && (index < 1 || index > length)) {
                refuse();
                return;
            }
            if (none) {
                giveNil();
                return;
            }
            int table = (int) value(0);
            int place = rows.findValue(table, NUMBER, index);
            stack.push(rows.tagAt(place), rows.valueAt(place));
            for (long i = index; i < length; i++) {
                int next = rows.findValue(table, NUMBER, i + 1);
                rows.change(place, rows.tagAt(next), rows.valueAt(next));
                place = next;
            }
            rows.change(place, NIL, 0);
            calls.give(stack.top - 1, 1);
        }

        private void create() {
            int strand = tag(0) == PROCEDURE ? heap.makeStrand((int) value(0)) : 0;
            if (tag(0) != PROCEDURE) {
                refuse();
            } else if (strand < 0) {
                calls.stop(MEMORY);
            } else {
                calls.giveOne(STRAND, strand);
            }
        }

        private void wrap() {
            int wrapper = tag(0) == PROCEDURE ? heap.makeWrapper((int) value(0)) : 0;
            if (tag(0) != PROCEDURE) {
                refuse();
            } else if (wrapper < 0) {
                calls.stop(MEMORY);
            } else {
                calls.giveOne(WRAPPER, wrapper);
            }
        }

        private void status() {
            if (tag(0) != STRAND) {
                refuse();
                return;
            }
            switch (heap.ones[(int) value(0)]) {
                case Heap.DEAD:
                    calls.giveOne(STRING, S_DEAD);
                    break;
                case Heap.RUNS:
                    calls.giveOne(STRING, S_RUNNING);
                    break;
                case Heap.WAITS:
                    calls.giveOne(STRING, S_NORMAL);
                    break;
                default:
                    calls.giveOne(STRING, S_SUSPENDED);
                    break;
            }
        }

        private void running() {
            if (stack.linkTop > 0) {
                calls.giveOne(STRAND, stack.linkField(Stack.L_STRAND));
            } else {
                giveNil();
            }
        }

        private void cells() {
            heap.room(Heap.EVERYTHING);
            giveNumber(heap.used);
        }
    }
}
