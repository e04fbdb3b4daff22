import java.util.Arrays;

/**
 * A house for a natural tongue: two-level rules between deep and written letters, lexicons, structures with shared
 * parts, and sentences read to all their trees. The numbered promises stand in the project's document.
 */
public final class SentenceHouse {

    public static final int NONE = -1;
    public static final int MANY = -2;

    private static final int TAPE_LIMIT = 5000;
    private static final int BYTES_A_FEED = 20;
    private static final int BYTE_OF_NOTHING = 48;
    private static final int DESK_SLOTS = 8;
    private static final int LETTER_LIMIT = 14;
    private static final int TOLD_PAIR_LIMIT = 10;
    private static final int PAIR_LIMIT = LETTER_LIMIT + TOLD_PAIR_LIMIT;
    private static final int SET_LIMIT = 8;
    private static final int RULE_LIMIT = 8;
    private static final int LEXICON_LIMIT = 6;
    private static final int ENTRIES_OF_ONE = 8;
    private static final int ENTRY_LIMIT = LEXICON_LIMIT * ENTRIES_OF_ONE;
    private static final int GRAMMAR_LIMIT = 12;
    private static final int WORD_LIMIT = 16;
    private static final int SHORT_LIMIT = 8;
    private static final int FORM_LIMIT = 100;
    private static final int WAY_LIMIT = 4;
    private static final int CANDIDATE_LIMIT = 2000;
    private static final int SENTENCE_LIMIT = 8;
    private static final int TREE_LIMIT = 30;
    private static final int TREE_PAIR_LIMIT = 400;
    private static final int KEPT_LIMIT = 40;
    private static final int ALL_HOLD = 32;
    private static final int DIFFER_LIMIT = 4;
    private static final int ASCII = 128;

    /** A shape is a structure in a row: how many features it has, then of each: owner, name, value. */
    private static final int SHAPE_LIMIT = 40;
    private static final int SHAPE_WIDTH = 1 + 3 * SHAPE_LIMIT;
    private static final int FEATURE_LIMIT = 20;
    private static final int TOLD_SHAPE_WIDTH = 1 + 3 * FEATURE_LIMIT;

    private static final int LEXICON_NAME = 0;
    private static final int LEXICON_FIRST = 1;
    private static final int LEXICON_END = 2;
    private static final int LEXICON_WIDTH = 3;

    private static final int ENTRY_GOAL = 0;
    private static final int ENTRY_COST = 1;
    private static final int ENTRY_LENGTH = 2;
    private static final int ENTRY_DEEP = 3;
    private static final int DEEP_LIMIT = 6;
    private static final int ENTRY_WIDTH = ENTRY_DEEP + DEEP_LIMIT;

    private static final int GRAMMAR_HEAD = 0;
    private static final int GRAMMAR_FIRST = 1;
    private static final int GRAMMAR_SECOND = 2;
    private static final int GRAMMAR_COST = 3;
    private static final int GRAMMAR_EQUATIONS = 4;
    private static final int GRAMMAR_SIDES = 5;
    private static final int EQUATION_LIMIT = 8;
    private static final int PATH_LIMIT = 4;
    private static final int SIDE_WIDTH = 2 + PATH_LIMIT;
    private static final int SIDE_OF_ATOM = 3;
    private static final int GRAMMAR_WIDTH = GRAMMAR_SIDES + 2 * SIDE_WIDTH * EQUATION_LIMIT;

    private static final int SYNTAX = 1;
    private static final int LIMIT = 2;
    private static final int TWICE = 3;
    private static final int UNKNOWN = 4;
    private static final int KIND = 5;
    private static final int RING = 6;
    private static final int NO_ROOT = 7;

    private final byte[] tape;
    private int tapeLength;
    private final Names names;
    private final Tokens tokens;
    private final Reader reader;
    private Text text;
    private Text spare;
    private final Graph graph;
    private final int[][] desk;
    private final Scribe scribe;
    private final int[] pairRow;
    private final int[] ruleState;
    private int heldRules;
    private boolean heldAny;
    private final PairStrings strings;
    private final int[] spelled;
    private final WordSearch latest;
    private final WordSearch passing;
    private final Spellings neighbours;
    private final Chart chart;

    public SentenceHouse() {
        tape = new byte[TAPE_LIMIT];
        names = new Names();
        tokens = new Tokens(names);
        graph = new Graph();
        reader = new Reader(tokens, names, graph);
        text = new Text();
        spare = new Text();
        desk = new int[DESK_SLOTS][SHAPE_WIDTH];
        scribe = new Scribe(names);
        pairRow = new int[WORD_LIMIT];
        ruleState = new int[Rule.STATE_WIDTH];
        strings = new PairStrings();
        spelled = new int[WORD_LIMIT];
        latest = new WordSearch(graph);
        passing = new WordSearch(graph);
        neighbours = new Spellings(256);
        chart = new Chart(graph, passing);
    }

    // ---- the tape

    public int feed(int a, int b, int c, int d, int e) {
        if (tapeLength > TAPE_LIMIT - BYTES_A_FEED) {
            return NONE;
        }
        putBytes(a);
        putBytes(b);
        putBytes(c);
        putBytes(d);
        putBytes(e);
        return tapeLength;
    }

    private void putBytes(int four) {
        for (int shift = 24; shift >= 0 && tapeLength < TAPE_LIMIT; shift -= 8) {
            tape[tapeLength] = (byte) (four >> shift);
            tapeLength++;
        }
    }

    public int back(int n) {
        if (n < 0 || n > tapeLength) {
            return NONE;
        }
        tapeLength -= n;
        return tapeLength;
    }

    // ---- the text

    public int read() {
        tokens.scan(tape, tapeLength);
        tapeLength = 0;
        reader.begin(spare);
        if (!reader.declarations(false)) {
            return reader.fault;
        }
        reader.makePairs();
        reader.declarations(true);
        int fault = reader.laterFault();
        if (fault != 0) {
            return fault;
        }
        Text told = spare;
        spare = text;
        text = told;
        forget();
        return 0;
    }

    private void forget() {
        heldAny = false;
        strings.made.clear();
        latest.clear();
        neighbours.clear();
        chart.clear();
    }

    public int count(int what) {
        switch (what) {
            case 0: return text.letterCount;
            case 1: return text.pairCount;
            case 2: return text.setCount;
            case 3: return text.ruleCount;
            case 4: return text.lexiconCount;
            case 5: return text.entryCount;
            case 6: return text.grammarCount;
            case 7: return text.start == NONE ? 0 : 1;
            case 8: return text.atomsOfRules();
            case 9: return tapeLength;
            case 10: return chart.wordCount;
            case 11: return chart.workedEver;
            case 12: return chart.kept;
            case 13: return chart.workedLately;
            default: return NONE;
        }
    }

    // ---- forms

    public int holds() {
        int length = pairsOfTape();
        tapeLength = 0;
        if (length == NONE) {
            return NONE;
        }
        heldAny = true;
        heldRules = 0;
        for (int r = 0; r < text.ruleCount; r++) {
            if (text.rules[r].allows(pairRow, length, ruleState)) {
                heldRules |= 1 << r;
            }
        }
        return Integer.bitCount(heldRules);
    }

    /** Puts the pairs that the tape tells into pairRow: how many, or NONE. */
    private int pairsOfTape() {
        if (tapeLength % 2 != 0 || tapeLength > 2 * WORD_LIMIT) {
            return NONE;
        }
        int length = tapeLength / 2;
        for (int i = 0; i < length; i++) {
            int written = tape[2 * i + 1];
            int pair = text.pairNumber(tape[2 * i], written == BYTE_OF_NOTHING ? 0 : written);
            if (pair == NONE || written == 0) {
                return NONE;
            }
            pairRow[i] = pair;
        }
        return length;
    }

    public int rule(int r) {
        if (!heldAny || r < 0 || r >= text.ruleCount) {
            return NONE;
        }
        return heldRules >> r & 1;
    }

    public long differ(int r, int s) {
        if (r < 0 || r >= text.ruleCount || s < 0 || s >= text.ruleCount) {
            return NONE;
        }
        return r == s ? 0 : strings.parting(text, text.rules[r], text.rules[s]);
    }

    public int forms() {
        int length = lettersOfTape(SHORT_LIMIT, false);
        tapeLength = 0;
        return length == NONE ? NONE : strings.makeForms(text, spelled, length);
    }

    public int form(int k, int i) {
        return strings.made.byteAt(k, i);
    }

    /** Puts the letters that the tape tells into spelled: how many, or NONE if they are no such row of letters. */
    private int lettersOfTape(int limit, boolean smallOnly) {
        if (tapeLength < 1 || tapeLength > limit || limit > WORD_LIMIT) {
            return NONE;
        }
        for (int i = 0; i < tapeLength; i++) {
            int letter = tape[i];
            if (text.letterNumber(letter) == NONE || smallOnly && !Text.isSmall(letter)) {
                return NONE;
            }
            spelled[i] = letter;
        }
        return tapeLength;
    }

    // ---- words

    public int analyse() {
        int length = lettersOfTape(WORD_LIMIT, true);
        tapeLength = 0;
        if (length == NONE) {
            return NONE;
        }
        latest.explore(text, spelled, length, false);
        return latest.isMany() ? MANY : latest.analyses;
    }

    public int way(int k, int i) {
        return k < 0 || k >= latest.analyses ? NONE : WordSearch.entryOf(latest.ways[k], i);
    }

    public int candidate(int c, int what) {
        if (c < 0 || c >= candidates()) {
            return NONE;
        }
        if (what == 0) {
            return latest.firstBroken(c);
        }
        if (what <= WAY_LIMIT) {
            return WordSearch.entryOf(latest.wayOf[c], what - 1);
        }
        return latest.pairOf(c, what - 1 - WAY_LIMIT);
    }

    public int candidates() {
        return latest.isMany() ? MANY : latest.found;
    }

    public int near() {
        int length = lettersOfTape(SHORT_LIMIT, true);
        tapeLength = 0;
        if (length == NONE) {
            return NONE;
        }
        neighbours.clear();
        neighbours.addNeighbours(text, spelled, length);
        int kept = 0;
        for (int k = 0; k < neighbours.size; k++) {
            int size = Spellings.lettersOf(neighbours.list[k], spelled);
            passing.explore(text, spelled, size, true);
            if (passing.isMany() || passing.analyses > 0) {
                neighbours.list[kept] = neighbours.list[k];
                kept++;
            }
        }
        neighbours.size = kept;
        return kept;
    }

    public int nearby(int k, int i) {
        return neighbours.byteAt(k, i);
    }

    // ---- the desk and what is written

    private static boolean isSlot(int slot) {
        return slot >= 0 && slot < DESK_SLOTS;
    }

    public int lay(int slot) {
        if (!isSlot(slot)) {
            return NONE;
        }
        tokens.scan(tape, tapeLength);
        tapeLength = 0;
        int fault = reader.readAlone();
        if (fault == 0) {
            Graph.copyShape(graph.result, desk[slot]);
        }
        return fault;
    }

    public int unify(int a, int b, int c) {
        if (!isSlot(a) || !isSlot(b) || !isSlot(c)) {
            return NONE;
        }
        graph.clear();
        int first = graph.load(desk[a]);
        int second = graph.load(desk[b]);
        if (!graph.join(first, second) || !graph.settle(first)) {
            return NONE;
        }
        Graph.copyShape(graph.result, desk[c]);
        return desk[c][0];
    }

    public int above(int a, int b) {
        if (!isSlot(a) || !isSlot(b)) {
            return NONE;
        }
        return graph.covers(desk[a], desk[b]) ? 1 : 0;
    }

    public int write(int what, int k) {
        if (what == 0 && isSlot(k)) {
            return scribe.writeShape(desk[k]);
        }
        if (what == 1 && k >= 0 && k < latest.analyses && latest.blends(latest.ways[k])) {
            return scribe.writeShape(graph.result);
        }
        if (what == 2 && k >= 0 && k < chart.readingCount) {
            return scribe.writeShape(chart.shapeOfReading(k));
        }
        return NONE;
    }

    public int octet(int i) {
        return i < 0 || i >= scribe.length ? NONE : scribe.bytes[i];
    }

    // ---- the sentence

    public int word(int i) {
        int length = lettersOfTape(WORD_LIMIT, true);
        tapeLength = 0;
        if (length == NONE || i < 0 || i > chart.wordCount || i >= SENTENCE_LIMIT) {
            return NONE;
        }
        chart.words[i] = text.wordCode(spelled, length);
        chart.wordCount = Math.max(chart.wordCount, i + 1);
        return chart.wordCount;
    }

    public int insert(int i) {
        int length = lettersOfTape(WORD_LIMIT, true);
        tapeLength = 0;
        if (length == NONE || i < 0 || i > chart.wordCount || chart.wordCount >= SENTENCE_LIMIT) {
            return NONE;
        }
        for (int j = chart.wordCount; j > i; j--) {
            chart.words[j] = chart.words[j - 1];
        }
        chart.words[i] = text.wordCode(spelled, length);
        chart.wordCount++;
        return chart.wordCount;
    }

    public int remove(int i) {
        if (i < 0 || i >= chart.wordCount) {
            return NONE;
        }
        for (int j = i; j + 1 < chart.wordCount; j++) {
            chart.words[j] = chart.words[j + 1];
        }
        chart.wordCount--;
        return chart.wordCount;
    }

    public int parse() {
        if (chart.wordCount == 0 || text.start == NONE) {
            return NONE;
        }
        chart.begin(text);
        for (int length = 1; length <= chart.wordCount; length++) {
            for (int i = 0; i + length <= chart.wordCount; i++) {
                int j = i + length - 1;
                if (!chart.recalls(i, j)) {
                    boolean few = i == j ? chart.seedWord(i) : chart.seedPairs(i, j);
                    chart.keep(i, j, few && chart.growChains());
                }
            }
        }
        return chart.gatherReadings();
    }

    public int reading(int k, int what) {
        return chart.factOfReading(k, what);
    }

    public int node(int k, int i, int what) {
        return chart.factOfNode(k, i, what);
    }

    /** Every name that was ever read, each once, by a number; the words of the text come first. */
    private static final class Names {
        /** An object's 512 calls feed 10,240 bytes at most: fewer than 3,500 different names. */
        private static final int ROOM = 4000;
        private static final int POOL = 10400;
        private static final int BUCKETS = 256;
        private static final int CAT = 11;
        private static final int ROOT = 12;

        private final byte[] pool = new byte[POOL];
        private final int[] starts = new int[ROOM + 1];
        private final int[] next = new int[ROOM];
        private final int[] heads = new int[BUCKETS];
        private int size;

        private Names() {
            Arrays.fill(heads, NONE);
            tell("end");
            tell("grammar");
            tell("letters");
            tell("lexicon");
            tell("pair");
            tell("rule");
            tell("set");
            tell("start");
            tell("x0");
            tell("x1");
            tell("x2");
            tell("cat");
            tell("Root");
        }

        private void tell(String name) {
            byte[] bytes = new byte[name.length()];
            for (int i = 0; i < bytes.length; i++) {
                bytes[i] = (byte) name.charAt(i);
            }
            idOf(bytes, 0, bytes.length);
        }

        private int idOf(byte[] from, int at, int length) {
            int hash = length;
            for (int i = 0; i < length; i++) {
                hash = 31 * hash + from[at + i];
            }
            int bucket = hash & BUCKETS - 1;
            int id = heads[bucket];
            for (int k = 0; k < size && id >= 0; k++) {
                if (isSpelled(id, from, at, length)) {
                    return id;
                }
                id = next[id];
            }
            return add(bucket, from, at, length);
        }

        private int add(int bucket, byte[] from, int at, int length) {
            int start = starts[size];
            if (size >= ROOM || start + length > POOL) {
                return size - 1;
            }
            System.arraycopy(from, at, pool, start, length);
            next[size] = heads[bucket];
            heads[bucket] = size;
            size++;
            starts[size] = start + length;
            return size - 1;
        }

        private boolean isSpelled(int id, byte[] from, int at, int length) {
            if (lengthOf(id) != length) {
                return false;
            }
            for (int i = 0; i < length; i++) {
                if (pool[starts[id] + i] != from[at + i]) {
                    return false;
                }
            }
            return true;
        }

        private int lengthOf(int id) {
            return id < 0 || id >= size ? 0 : starts[id + 1] - starts[id];
        }

        private int firstByteOf(int id) {
            return id < 0 || id >= size ? 0 : pool[starts[id]];
        }

        private int byteOf(int id, int i) {
            return i < 0 || i >= lengthOf(id) ? 0 : pool[starts[id] + i];
        }

        /** By bytes, the shorter one first where it begins the other. */
        private boolean isBefore(int a, int b) {
            int shared = Math.min(lengthOf(a), lengthOf(b));
            for (int i = 0; i < shared; i++) {
                int step = byteOf(a, i) - byteOf(b, i);
                if (step != 0) {
                    return step < 0;
                }
            }
            return lengthOf(a) < lengthOf(b);
        }
    }

    /** The tokens of a tape. A sign of one byte has that byte as its kind. */
    private static final class Tokens {
        private static final int END = 0;
        private static final int BAD = 1;
        private static final int LETTER = 2;
        private static final int LONG_NAME = 3;
        private static final int ZERO = 4;
        private static final int NUMBER = 5;
        private static final int TO = 256;
        private static final int ONLY = 257;
        private static final int ALWAYS = 258;
        private static final int BOTH = 259;
        private static final int NEVER = 260;
        private static final int WORD = 300;
        private static final int WORDS = 11;
        private static final int WORD_END = 300;
        private static final int WORD_GRAMMAR = 301;
        private static final int WORD_LETTERS = 302;
        private static final int WORD_LEXICON = 303;
        private static final int WORD_PAIR = 304;
        private static final int WORD_RULE = 305;
        private static final int WORD_SET = 306;
        private static final int WORD_START = 307;
        private static final int WORD_X0 = 308;
        private static final int WORD_X2 = 310;
        private static final int NAME_LIMIT = 12;
        private static final int DIGIT_LIMIT = 3;

        private final Names names;
        private final int[] kinds = new int[TAPE_LIMIT + 1];
        private final int[] places = new int[TAPE_LIMIT + 1];
        private final int[] values = new int[TAPE_LIMIT + 1];
        private int size;
        private int length;

        private Tokens(Names names) {
            this.names = names;
        }

        /** Ends with an END, or with a BAD one where no token begins. */
        private void scan(byte[] tape, int tapeLength) {
            size = 0;
            length = Math.min(tapeLength, tape.length);
            int at = 0;
            for (int k = 0; k <= length; k++) {
                at = skipBlanks(tape, at);
                if (at >= length) {
                    put(END, length, 0);
                    return;
                }
                int stop = scanToken(tape, at);
                if (stop <= at) {
                    put(BAD, at, 0);
                    return;
                }
                at = stop;
            }
        }

        private void put(int kind, int place, int value) {
            if (size < kinds.length) {
                kinds[size] = kind;
                places[size] = place;
                values[size] = value;
                size++;
            }
        }

        private int skipBlanks(byte[] tape, int from) {
            boolean inNote = false;
            for (int i = from; i < length; i++) {
                int c = tape[i];
                if (inNote) {
                    inNote = c != 10;
                } else if (c == '%') {
                    inNote = true;
                } else if (c != 9 && c != 10 && c != 13 && c != 32) {
                    return i;
                }
            }
            return length;
        }

        /** Where the token that begins here ends; its own place if none does. */
        private int scanToken(byte[] tape, int at) {
            int c = tape[at];
            if (isLetter(c)) {
                return scanName(tape, at);
            }
            return isDigit(c) ? scanNumber(tape, at) : scanSign(tape, at);
        }

        private static boolean isLetter(int c) {
            return c >= 'A' && c <= 'Z' || c >= 'a' && c <= 'z';
        }

        private static boolean isDigit(int c) {
            return c >= '0' && c <= '9';
        }

        private int scanName(byte[] tape, int at) {
            int stop = at + 1;
            while (stop < length && (isLetter(tape[stop]) || isDigit(tape[stop]))) {
                stop++;
            }
            if (stop - at > NAME_LIMIT) {
                return at;
            }
            int id = names.idOf(tape, at, stop - at);
            int kind = stop - at == 1 ? LETTER : LONG_NAME;
            put(id < WORDS ? WORD + id : kind, at, id);
            return stop;
        }

        private int scanNumber(byte[] tape, int at) {
            int value = 0;
            int stop = at;
            while (stop < length && stop <= at + DIGIT_LIMIT && isDigit(tape[stop])) {
                value = 10 * value + tape[stop] - '0';
                stop++;
            }
            if (stop - at > DIGIT_LIMIT || stop < length && isLetter(tape[stop])) {
                return at;
            }
            put(stop - at == 1 && value == 0 ? ZERO : NUMBER, at, value);
            return stop;
        }

        private int scanSign(byte[] tape, int at) {
            int second = at + 1 < length ? tape[at + 1] : 0;
            int third = at + 2 < length ? tape[at + 2] : 0;
            switch (tape[at]) {
                case ';': case ':': case ',': case '.': case '|': case '*': case '?': case '#':
                case '_': case '@': case '{': case '}': case '(': case ')':
                    return putSign(tape[at], at, 1);
                case '=':
                    return second == '>' ? putSign(ONLY, at, 2) : putSign('=', at, 1);
                case '-':
                    return second == '>' ? putSign(TO, at, 2) : at;
                case '<':
                    if (second != '=') {
                        return at;
                    }
                    return third == '>' ? putSign(BOTH, at, 3) : putSign(ALWAYS, at, 2);
                case '/':
                    return second == '<' && third == '=' ? putSign(NEVER, at, 3) : at;
                default:
                    return at;
            }
        }

        private int putSign(int kind, int at, int bytes) {
            put(kind, at, 0);
            return at + bytes;
        }
    }

    /** What a text has told. */
    private static final class Text {
        private final int[] letters = new int[LETTER_LIMIT];
        private int letterCount;
        private final int[] numbers = new int[ASCII];
        private final int[] deepOf = new int[PAIR_LIMIT];
        private final int[] writtenOf = new int[PAIR_LIMIT];
        private int pairCount;
        private final int[] pairsOf = new int[ASCII];
        private final int[] setNames = new int[SET_LIMIT];
        private final long[] setMasks = new long[SET_LIMIT];
        private int setCount;
        private final Rule[] rules = new Rule[RULE_LIMIT];
        private int ruleCount;
        private final int[][] lexicons = new int[LEXICON_LIMIT][LEXICON_WIDTH];
        private int lexiconCount;
        private final int[][] entries = new int[ENTRY_LIMIT][ENTRY_WIDTH];
        private final int[][] shapes = new int[ENTRY_LIMIT][TOLD_SHAPE_WIDTH];
        private int entryCount;
        private final int[][] grammar = new int[GRAMMAR_LIMIT][GRAMMAR_WIDTH];
        private int grammarCount;
        private int start = NONE;

        private Text() {
            Arrays.fill(numbers, NONE);
            for (int r = 0; r < RULE_LIMIT; r++) {
                rules[r] = new Rule();
            }
        }

        private void clear() {
            Arrays.fill(numbers, NONE);
            Arrays.fill(pairsOf, 0);
            letterCount = 0;
            pairCount = 0;
            setCount = 0;
            ruleCount = 0;
            lexiconCount = 0;
            entryCount = 0;
            grammarCount = 0;
            start = NONE;
        }

        private static boolean isSmall(int letter) {
            return letter >= 'a' && letter <= 'z';
        }

        private int letterNumber(int letter) {
            return letter < 0 || letter >= ASCII ? NONE : numbers[letter];
        }

        private void addLetter(int letter) {
            if (letter >= 0 && letter < ASCII && letterCount < LETTER_LIMIT) {
                numbers[letter] = letterCount;
                letters[letterCount] = letter;
                letterCount++;
            }
        }

        private void addPair(int deep, int written) {
            if (deep >= 0 && deep < ASCII && pairCount < PAIR_LIMIT) {
                deepOf[pairCount] = deep;
                writtenOf[pairCount] = written;
                pairsOf[deep] |= 1 << pairCount;
                pairCount++;
            }
        }

        /** The numbers of a deep letter's pairs, a bit each. */
        private int pairsOfLetter(int deep) {
            return deep < 0 || deep >= ASCII ? 0 : pairsOf[deep];
        }

        private int pairNumber(int deep, int written) {
            for (int p = 0; p < pairCount; p++) {
                if (deepOf[p] == deep && writtenOf[p] == written) {
                    return p;
                }
            }
            return NONE;
        }

        private int setNumber(int name) {
            for (int s = 0; s < setCount; s++) {
                if (setNames[s] == name) {
                    return s;
                }
            }
            return NONE;
        }

        private int lexiconNumber(int name) {
            for (int l = 0; l < lexiconCount; l++) {
                if (lexicons[l][LEXICON_NAME] == name) {
                    return l;
                }
            }
            return NONE;
        }

        private int atomsOfRules() {
            int all = 0;
            for (int r = 0; r < ruleCount; r++) {
                all += rules[r].atoms;
            }
            return all;
        }

        /** A word as one number: four bits a letter, and 14 letters at most, so that none is 0. */
        private long wordCode(int[] word, int length) {
            long code = 0;
            for (int i = 0; i < length && i < word.length; i++) {
                code = code << 4 | letterNumber(word[i]) + 1;
            }
            return code;
        }

        /** Puts the letters of a word's number into a row: how many. */
        private int lettersOfCode(long code, int[] word) {
            int length = 0;
            for (int shift = 60; shift >= 0; shift -= 4) {
                int number = (int) (code >>> shift & 15) - 1;
                if (number >= 0 && number < letterCount && length < word.length) {
                    word[length] = letters[number];
                    length++;
                }
            }
            return length;
        }
    }

    /** Reads tokens as a text, or as a structure alone, and tells the fault. */
    private static final class Reader {
        private static final int NO_FAULT = Integer.MAX_VALUE;
        private static final int CONTEXT_LIMIT = 3;
        private static final int ATOM_LIMIT = 24;
        private static final int BRACKET_LIMIT = 8;
        private static final int BRACE_LIMIT = 6;
        private static final int TAG_LIMIT = 9;
        private static final int PAIRS_OF_ONE = 3;

        private final Tokens tokens;
        private final Names names;
        private final Graph graph;
        private Text text;
        private boolean second;
        private int at;
        private int fault;
        private int later;
        private int ring;
        private final int[] toldPairs = new int[2 * TOLD_PAIR_LIMIT];
        private int toldCount;
        private int pairDeep;
        private int pairWritten;
        private int lexiconAt;
        private final long[] choices = new long[BRACKET_LIMIT + 1];
        private final long[] rows = new long[BRACKET_LIMIT + 1];
        private final int[] owners = new int[BRACE_LIMIT];
        private final int[] tagNodes = new int[TAG_LIMIT + 1];
        private int tagsGiven;
        private int features;

        private Reader(Tokens tokens, Names names, Graph graph) {
            this.tokens = tokens;
            this.names = names;
            this.graph = graph;
        }

        private void begin(Text into) {
            text = into;
            text.clear();
            toldCount = 0;
            fault = 0;
            later = NO_FAULT;
            ring = NO_FAULT;
        }

        /** The fault of the rounds behind the first one, or 0. */
        private int laterFault() {
            if (later != NO_FAULT) {
                return later;
            }
            if (ring != NO_FAULT) {
                return ring;
            }
            return text.lexiconNumber(Names.ROOT) == NONE ? NO_ROOT + 16 * tokens.length : 0;
        }

        // ---- tokens

        private int kind() {
            return at < tokens.size ? tokens.kinds[at] : Tokens.END;
        }

        private int value() {
            return at < tokens.size ? tokens.values[at] : 0;
        }

        private int place() {
            return at < tokens.size ? tokens.places[at] : tokens.length;
        }

        private boolean atName() {
            return kind() == Tokens.LETTER || kind() == Tokens.LONG_NAME;
        }

        private boolean atNumber() {
            return kind() == Tokens.NUMBER || kind() == Tokens.ZERO;
        }

        private boolean take(int kind) {
            if (kind() != kind) {
                return fail(SYNTAX);
            }
            at++;
            return true;
        }

        private boolean fail(int code) {
            fault = code + 16 * (at < tokens.size ? tokens.places[at] : tokens.length);
            return false;
        }

        private void report(int code, int place) {
            later = Math.min(later, code + 16 * place);
        }

        /** The letter that stands here; in the second pass it's asked whether the text tells it. */
        private int letterHere() {
            int letter = names.firstByteOf(value());
            if (second && text.letterNumber(letter) == NONE) {
                report(UNKNOWN, place());
            }
            return letter;
        }

        // ---- declarations

        /** The first pass finds the first round's fault and gathers names; the second builds what they stand for. */
        private boolean declarations(boolean again) {
            second = again;
            at = 0;
            lexiconAt = 0;
            text.ruleCount = 0;
            text.entryCount = 0;
            text.grammarCount = 0;
            boolean fine = true;
            for (int k = 0; k <= tokens.size && fine && kind() != Tokens.END; k++) {
                switch (kind()) {
                    case Tokens.WORD_LETTERS: fine = readLetters(); break;
                    case Tokens.WORD_PAIR: fine = readPairs(); break;
                    case Tokens.WORD_SET: fine = readSet(); break;
                    case Tokens.WORD_RULE: fine = readRuleHead() && readContexts(); break;
                    case Tokens.WORD_LEXICON: fine = readLexicon(); break;
                    case Tokens.WORD_GRAMMAR: fine = readGrammar(); break;
                    case Tokens.WORD_START: fine = readStart(); break;
                    default: fine = fail(SYNTAX); break;
                }
            }
            return fine;
        }

        private boolean readLetters() {
            at++;
            for (int k = 0; k < tokens.size && (k == 0 || kind() != ';'); k++) {
                if (kind() != Tokens.LETTER) {
                    return fail(SYNTAX);
                }
                if (!second) {
                    if (text.letterCount >= LETTER_LIMIT) {
                        return fail(LIMIT);
                    }
                    int letter = letterHere();
                    if (text.letterNumber(letter) != NONE) {
                        report(TWICE, place());
                    }
                    text.addLetter(letter);
                }
                at++;
            }
            return take(';');
        }

        private boolean readPairs() {
            at++;
            for (int k = 0; k < tokens.size && (k == 0 || kind() != ';'); k++) {
                if (kind() != Tokens.LETTER) {
                    return fail(SYNTAX);
                }
                if (!second && toldCount >= TOLD_PAIR_LIMIT) {
                    return fail(LIMIT);
                }
                int place = place();
                if (!readPair()) {
                    return false;
                }
                if (!second) {
                    tellPair(place);
                }
            }
            return take(';');
        }

        /** A pair, into pairDeep and pairWritten (0 for nothing). */
        private boolean readPair() {
            if (kind() != Tokens.LETTER) {
                return fail(SYNTAX);
            }
            pairDeep = letterHere();
            at++;
            if (!take(':')) {
                return false;
            }
            if (kind() != Tokens.LETTER && kind() != Tokens.ZERO) {
                return fail(SYNTAX);
            }
            pairWritten = kind() == Tokens.ZERO ? 0 : letterHere();
            at++;
            return true;
        }

        private void tellPair(int place) {
            int ofThisDeep = 0;
            for (int p = 0; p < toldCount; p++) {
                if (toldPairs[2 * p] == pairDeep) {
                    ofThisDeep++;
                    if (toldPairs[2 * p + 1] == pairWritten) {
                        report(TWICE, place);
                    }
                }
            }
            boolean capital = pairWritten != 0 && !Text.isSmall(pairWritten);
            if (capital || pairDeep == pairWritten || ofThisDeep >= PAIRS_OF_ONE) {
                report(KIND, place);
            }
            if (toldCount < TOLD_PAIR_LIMIT) {
                toldPairs[2 * toldCount] = pairDeep;
                toldPairs[2 * toldCount + 1] = pairWritten;
                toldCount++;
            }
        }

        /** The feasible pairs, once all letters and pairs are known. */
        private void makePairs() {
            for (int l = 0; l < text.letterCount; l++) {
                if (Text.isSmall(text.letters[l])) {
                    text.addPair(text.letters[l], text.letters[l]);
                }
            }
            for (int p = 0; p < toldCount; p++) {
                text.addPair(toldPairs[2 * p], toldPairs[2 * p + 1]);
            }
        }

        private boolean readSet() {
            if (!second && text.setCount >= SET_LIMIT) {
                return fail(LIMIT);
            }
            at++;
            if (kind() != Tokens.LONG_NAME) {
                return fail(SYNTAX);
            }
            int name = value();
            if (!second && text.setNumber(name) != NONE) {
                report(TWICE, place());
            }
            at++;
            if (!take('=')) {
                return false;
            }
            long mask = 0;
            for (int k = 0; k < tokens.size && (k == 0 || kind() != ';'); k++) {
                if (kind() != Tokens.LETTER) {
                    return fail(SYNTAX);
                }
                mask |= Rule.bitOf(letterHere());
                at++;
            }
            if (!second && text.setCount < SET_LIMIT) {
                text.setNames[text.setCount] = name;
                text.setMasks[text.setCount] = mask;
                text.setCount++;
            }
            return take(';');
        }

        private boolean readStart() {
            if (!second && text.start != NONE) {
                report(TWICE, place());
            }
            at++;
            if (!atName()) {
                return fail(SYNTAX);
            }
            text.start = value();
            at++;
            return take(';');
        }

        // ---- rules for letters

        /** A rule up to its operator. */
        private boolean readRuleHead() {
            if (text.ruleCount >= RULE_LIMIT) {
                return fail(LIMIT);
            }
            at++;
            if (!atName()) {
                return fail(SYNTAX);
            }
            int name = value();
            for (int r = 0; r < text.ruleCount; r++) {
                if (text.rules[r].name == name) {
                    report(TWICE, place());
                }
            }
            at++;
            int pairPlace = place();
            if (!readPair()) {
                return false;
            }
            int pair = text.pairNumber(pairDeep, pairWritten);
            if (second && pair == NONE) {
                report(KIND, pairPlace);
            }
            if (kind() < Tokens.ONLY || kind() > Tokens.NEVER) {
                return fail(SYNTAX);
            }
            text.rules[text.ruleCount].begin(name, kind(), pair, text.pairsOfLetter(pairDeep));
            text.ruleCount++;
            at++;
            return true;
        }

        private boolean atAtom() {
            int kind = kind();
            return atName() || kind == '@' || kind == '#' || kind == '(';
        }

        /** The contexts of the rule whose head was read last. */
        private boolean readContexts() {
            Rule rule = text.rules[text.ruleCount - 1];
            for (int c = 0; c <= CONTEXT_LIMIT; c++) {
                if (!atAtom() && kind() != '_') {
                    return fail(SYNTAX);
                }
                if (c >= CONTEXT_LIMIT) {
                    return fail(LIMIT);
                }
                long left = atAtom() ? readExpression(rule) : Rule.EMPTY_ROW;
                if (left < 0 || !take('_')) {
                    return false;
                }
                long right = atAtom() ? readExpression(rule) : Rule.EMPTY_ROW;
                if (right < 0) {
                    return false;
                }
                rule.addContext(left, right);
                if (kind() == ';') {
                    at++;
                    return true;
                }
                if (!take(',')) {
                    return false;
                }
            }
            return fail(LIMIT);
        }

        /**
         * One RE, as a part of the rule's automaton, or NONE. Per open bracket: the ROWS ahead of the latest "|", and
         * the PARTS behind it (NONE where there are none yet).
         */
        private long readExpression(Rule rule) {
            int depth = 0;
            choices[0] = 0;
            rows[0] = NONE;
            for (int k = 0; k <= tokens.size; k++) {
                long part;
                if (kind() == '(') {
                    if (depth >= BRACKET_LIMIT) {
                        fail(LIMIT);
                        return NONE;
                    }
                    depth++;
                    choices[depth] = 0;
                    rows[depth] = NONE;
                    at++;
                    continue;
                } else if (atAtom()) {
                    part = readAtom(rule);
                } else if (rows[depth] == NONE) {
                    fail(SYNTAX);
                    return NONE;
                } else {
                    part = Rule.either(choices[depth], rows[depth]);
                    if (kind() == '|') {
                        choices[depth] = part;
                        rows[depth] = NONE;
                        at++;
                        continue;
                    }
                    if (depth == 0) {
                        return part;
                    }
                    depth--;
                    if (!take(')')) {
                        return NONE;
                    }
                }
                if (part == NONE) {
                    return NONE;
                }
                part = readSuffix(rule, part);
                rows[depth] = rows[depth] == NONE ? part : rule.chained(rows[depth], part);
            }
            return NONE;
        }

        private long readSuffix(Rule rule, long part) {
            if (kind() == '*') {
                at++;
                return rule.repeated(part);
            }
            if (kind() == '?') {
                at++;
                return Rule.either(part, Rule.EMPTY_ROW);
            }
            return part;
        }

        private long readAtom(Rule rule) {
            if (rule.atoms >= ATOM_LIMIT) {
                fail(LIMIT);
                return NONE;
            }
            if (kind() == '#') {
                at++;
                return rule.addBorder();
            }
            long deep = sideMask();
            long written = deep;
            at++;
            if (kind() == ':') {
                at++;
                if (kind() == Tokens.ZERO) {
                    written = Rule.NOTHING;
                } else if (atName() || kind() == '@') {
                    written = sideMask();
                } else {
                    fail(SYNTAX);
                    return NONE;
                }
                at++;
            }
            return rule.addAtom(text, deep, written);
        }

        private long sideMask() {
            if (kind() == '@') {
                return Rule.ANYTHING;
            }
            if (kind() == Tokens.LETTER) {
                return Rule.bitOf(letterHere());
            }
            int set = text.setNumber(value());
            if (second && set == NONE) {
                report(UNKNOWN, place());
            }
            return set == NONE ? 0 : text.setMasks[set];
        }

        // ---- lexicons

        private boolean readLexicon() {
            if (lexiconAt >= LEXICON_LIMIT) {
                return fail(LIMIT);
            }
            at++;
            if (!readLexiconName() || !take('{')) {
                return false;
            }
            for (int e = 0; e <= ENTRIES_OF_ONE && kind() != '}'; e++) {
                if (!atName() && kind() != Tokens.ZERO) {
                    return fail(SYNTAX);
                }
                if (e >= ENTRIES_OF_ONE || text.entryCount >= ENTRY_LIMIT) {
                    return fail(LIMIT);
                }
                if (!readEntryHead(text.entries[text.entryCount])) {
                    return false;
                }
                int structurePlace = place();
                graph.clear();
                int top = kind() == '{' ? readStructure() : graph.addNode();
                if (top == NONE || !take(';')) {
                    return false;
                }
                keepEntry(top, structurePlace);
            }
            text.lexicons[lexiconAt - 1][LEXICON_END] = text.entryCount;
            return take('}');
        }

        private boolean readLexiconName() {
            if (!atName()) {
                return fail(SYNTAX);
            }
            int name = value();
            for (int l = 0; l < lexiconAt; l++) {
                if (text.lexicons[l][LEXICON_NAME] == name) {
                    report(TWICE, place());
                }
            }
            text.lexicons[lexiconAt][LEXICON_NAME] = name;
            text.lexicons[lexiconAt][LEXICON_FIRST] = text.entryCount;
            text.lexicons[lexiconAt][LEXICON_END] = text.entryCount;
            lexiconAt++;
            text.lexiconCount = Math.max(text.lexiconCount, lexiconAt);
            at++;
            return true;
        }

        /** An entry up to its cost. */
        private boolean readEntryHead(int[] entry) {
            if (!readDeep(entry) || !take(Tokens.TO)) {
                return false;
            }
            if (!atName() && kind() != Tokens.WORD_END) {
                return fail(SYNTAX);
            }
            entry[ENTRY_GOAL] = NONE;
            if (atName()) {
                entry[ENTRY_GOAL] = text.lexiconNumber(value());
                if (second && entry[ENTRY_GOAL] == NONE) {
                    report(UNKNOWN, place());
                }
            }
            at++;
            entry[ENTRY_COST] = readCost();
            return true;
        }

        private void keepEntry(int top, int structurePlace) {
            if (graph.settle(top)) {
                Graph.copyShape(graph.result, text.shapes[text.entryCount]);
            } else {
                ring = Math.min(ring, RING + 16 * structurePlace);
            }
            text.entryCount++;
        }

        private boolean readDeep(int[] entry) {
            int length = atName() ? names.lengthOf(value()) : 0;
            if (length > DEEP_LIMIT) {
                return fail(LIMIT);
            }
            entry[ENTRY_LENGTH] = length;
            for (int i = 0; i < length; i++) {
                int letter = names.byteOf(value(), i);
                entry[ENTRY_DEEP + i] = letter;
                if (second && text.letterNumber(letter) == NONE) {
                    report(UNKNOWN, place());
                }
            }
            at++;
            return true;
        }

        private int readCost() {
            if (!atNumber()) {
                return 0;
            }
            int cost = value();
            at++;
            return cost;
        }

        // ---- structures

        /** The tape as a structure alone, into the graph's result: 0 or the fault. */
        private int readAlone() {
            at = 0;
            fault = 0;
            later = NO_FAULT;
            int bracePlace = place();
            if (kind() != '{') {
                fail(SYNTAX);
                return fault;
            }
            int root = readStructure();
            if (root == NONE || !take(Tokens.END)) {
                return fault;
            }
            if (later != NO_FAULT) {
                return later;
            }
            return graph.settle(root) ? 0 : RING + 16 * bracePlace;
        }

        /** From the first brace to its end, into the graph: the top node, or NONE. */
        private int readStructure() {
            graph.clear();
            Arrays.fill(tagNodes, NONE);
            tagsGiven = 0;
            features = 0;
            int root = graph.addNode();
            owners[0] = root;
            int depth = 1;
            at++;
            for (int k = 0; k <= tokens.size; k++) {
                if (kind() == '}') {
                    at++;
                    depth--;
                    if (depth == 0) {
                        return root;
                    }
                } else {
                    depth = readFeature(depth);
                    if (depth == NONE) {
                        return NONE;
                    }
                }
            }
            return NONE;
        }

        /** How many braces are open behind the feature (or behind the brace that begins its value); NONE: a fault. */
        private int readFeature(int depth) {
            if (!atName() || depth < 1 || depth > BRACE_LIMIT) {
                fail(SYNTAX);
                return NONE;
            }
            if (features >= FEATURE_LIMIT) {
                fail(LIMIT);
                return NONE;
            }
            features++;
            int owner = owners[depth - 1];
            int name = value();
            if (graph.childOf(owner, name) != NONE) {
                report(TWICE, place());
            }
            at++;
            if (kind() != '#') {
                int node = graph.addNode();
                graph.link(owner, name, node);
                return readValue(node, depth);
            }
            int tagPlace = place();
            int tag = readTag();
            if (tag == NONE) {
                return NONE;
            }
            graph.link(owner, name, tagNodes[tag]);
            if (kind() != '=') {
                return depth;
            }
            at++;
            if ((tagsGiven >> tag & 1) != 0) {
                report(TWICE, tagPlace);
            }
            tagsGiven |= 1 << tag;
            return readValue(tagNodes[tag], depth);
        }

        /** What a node is given, a name or a structure that begins here: as readFeature. */
        private int readValue(int node, int depth) {
            if (atName()) {
                graph.makeAtom(node, value());
                at++;
                return depth;
            }
            if (kind() != '{') {
                fail(SYNTAX);
                return NONE;
            }
            if (depth >= BRACE_LIMIT) {
                fail(LIMIT);
                return NONE;
            }
            owners[depth] = node;
            at++;
            return depth + 1;
        }

        /** A tag's number, its node made; NONE: a fault. */
        private int readTag() {
            at++;
            if (!atNumber()) {
                fail(SYNTAX);
                return NONE;
            }
            int tag = value();
            if (tag < 0 || tag > TAG_LIMIT) {
                at--;
                fail(LIMIT);
                return NONE;
            }
            at++;
            if (tagNodes[tag] == NONE) {
                tagNodes[tag] = graph.addNode();
            }
            return tag;
        }

        // ---- rules for sentences

        private boolean readGrammar() {
            if (text.grammarCount >= GRAMMAR_LIMIT) {
                return fail(LIMIT);
            }
            int[] grammar = text.grammar[text.grammarCount];
            at++;
            if (!atName()) {
                return fail(SYNTAX);
            }
            grammar[GRAMMAR_HEAD] = value();
            at++;
            if (!take(Tokens.TO)) {
                return false;
            }
            if (!atName()) {
                return fail(SYNTAX);
            }
            grammar[GRAMMAR_FIRST] = value();
            at++;
            grammar[GRAMMAR_SECOND] = NONE;
            if (atName()) {
                grammar[GRAMMAR_SECOND] = value();
                at++;
            }
            grammar[GRAMMAR_COST] = readCost();
            grammar[GRAMMAR_EQUATIONS] = 0;
            text.grammarCount++;
            if (kind() == ':' && !readEquations(grammar)) {
                return false;
            }
            return take(';');
        }

        private boolean readEquations(int[] grammar) {
            for (int e = 0; e <= EQUATION_LIMIT && (e == 0 || kind() == ','); e++) {
                at++;
                if (!atRoot()) {
                    return fail(SYNTAX);
                }
                if (e >= EQUATION_LIMIT) {
                    return fail(LIMIT);
                }
                int side = GRAMMAR_SIDES + 2 * SIDE_WIDTH * e;
                if (!readPath(grammar, side) || !take('=')) {
                    return false;
                }
                if (!readRightSide(grammar, side + SIDE_WIDTH)) {
                    return false;
                }
                grammar[GRAMMAR_EQUATIONS] = e + 1;
            }
            return true;
        }

        private boolean atRoot() {
            return kind() >= Tokens.WORD_X0 && kind() <= Tokens.WORD_X2;
        }

        private boolean readRightSide(int[] grammar, int side) {
            if (atRoot()) {
                return readPath(grammar, side);
            }
            if (!atName()) {
                return fail(SYNTAX);
            }
            grammar[side] = SIDE_OF_ATOM;
            grammar[side + 1] = 1;
            grammar[side + 2] = value();
            at++;
            return true;
        }

        private boolean readPath(int[] grammar, int side) {
            grammar[side] = kind() - Tokens.WORD_X0;
            grammar[side + 1] = 0;
            if (kind() == Tokens.WORD_X2 && grammar[GRAMMAR_SECOND] == NONE) {
                report(UNKNOWN, place());
            }
            at++;
            for (int n = 0; n <= PATH_LIMIT && kind() == '.'; n++) {
                at++;
                if (!atName()) {
                    return fail(SYNTAX);
                }
                if (n >= PATH_LIMIT) {
                    return fail(LIMIT);
                }
                grammar[side + 2 + n] = value();
                grammar[side + 1] = n + 1;
                at++;
            }
            return true;
        }
    }

    /**
     * A rule for letters as an automaton whose states are its atoms, a bit each. A part of it is one number: the atoms
     * it may begin with, those it may end with, and whether it fits the empty row.
     */
    private static final class Rule {
        private static final int PART_BITS = 24;
        private static final int PART_MASK = (1 << PART_BITS) - 1;
        private static final long EMPTY_ROW = 1L << 2 * PART_BITS;
        private static final long NOTHING = 1L;
        private static final long ANYTHING = -1L;
        private static final int BORDER = PAIR_LIMIT;
        private static final int CONTEXTS = 3;

        /** A state: atoms that fit ahead, atoms that must not go on, how many needs, the atoms each may go on by. */
        private static final int AHEAD = 0;
        private static final int BANNED = 1;
        private static final int NEEDS = 2;
        private static final int NEED = 3;
        private static final int STATE_WIDTH = NEED + WORD_LIMIT;

        private int name;
        private int operator;
        private int pair;
        private int pairsOfDeep;
        private int atoms;
        private int contexts;
        private final int[] followers = new int[32];
        private final int[] fits = new int[BORDER + 1];
        private int leftStarts;
        private final int[] leftEnds = new int[CONTEXTS];
        private int leftEmpty;
        private final int[] rightStarts = new int[CONTEXTS];
        private int rightEmpty;
        private int rightEnds;

        /** Letters are 65 to 122, so that the lowest bit is free for nothing. */
        private static long bitOf(int letter) {
            return letter > 64 && letter < ASCII ? 1L << letter - 64 : 0;
        }

        private void begin(int itsName, int itsOperator, int itsPair, int pairsOfItsDeep) {
            name = itsName;
            operator = itsOperator;
            pair = itsPair;
            pairsOfDeep = pairsOfItsDeep;
            atoms = 0;
            contexts = 0;
            leftStarts = 0;
            leftEmpty = 0;
            rightEmpty = 0;
            rightEnds = 0;
            Arrays.fill(followers, 0);
            Arrays.fill(fits, 0);
        }

        // ---- building

        private long newAtom() {
            long bit = atoms < PART_BITS ? 1L << atoms : 0;
            atoms++;
            return bit | bit << PART_BITS;
        }

        private long addBorder() {
            long atom = newAtom();
            fits[BORDER] |= startsOf(atom);
            return atom;
        }

        private long addAtom(Text text, long deepMask, long writtenMask) {
            long atom = newAtom();
            for (int p = 0; p < text.pairCount; p++) {
                int written = text.writtenOf[p];
                long writtenBit = written == 0 ? NOTHING : bitOf(written);
                if ((deepMask & bitOf(text.deepOf[p])) != 0 && (writtenMask & writtenBit) != 0) {
                    fits[p] |= startsOf(atom);
                }
            }
            return atom;
        }

        private static int startsOf(long part) {
            return (int) part & PART_MASK;
        }

        private static int endsOf(long part) {
            return (int) (part >> PART_BITS) & PART_MASK;
        }

        private static boolean fitsEmpty(long part) {
            return (part & EMPTY_ROW) != 0;
        }

        private static long either(long part, long other) {
            return part | other;
        }

        private long chained(long part, long behind) {
            connect(endsOf(part), startsOf(behind));
            long starts = startsOf(part) | (fitsEmpty(part) ? startsOf(behind) : 0);
            long ends = endsOf(behind) | (fitsEmpty(behind) ? endsOf(part) : 0);
            return starts | ends << PART_BITS | part & behind & EMPTY_ROW;
        }

        private long repeated(long part) {
            connect(endsOf(part), startsOf(part));
            return part | EMPTY_ROW;
        }

        private void connect(int ends, int starts) {
            for (int a = 0; a < PART_BITS; a++) {
                if ((ends >> a & 1) != 0) {
                    followers[a] |= starts;
                }
            }
        }

        private void addContext(long left, long right) {
            if (contexts >= CONTEXTS) {
                return;
            }
            leftStarts |= startsOf(left);
            leftEnds[contexts] = endsOf(left);
            rightStarts[contexts] = startsOf(right);
            rightEnds |= endsOf(right);
            leftEmpty |= fitsEmpty(left) ? 1 << contexts : 0;
            rightEmpty |= fitsEmpty(right) ? 1 << contexts : 0;
            contexts++;
        }

        // ---- running

        /** Whether the rule holds of a whole pair string; state is a row to work in. */
        private boolean allows(int[] pairs, int length, int[] state) {
            startAt(state, 0);
            for (int i = 0; i < length && i < pairs.length; i++) {
                if (!stepOn(state, 0, 0, pairs[i])) {
                    return false;
                }
            }
            return endsWell(state, 0);
        }

        private void startAt(int[] state, int at) {
            state[at + AHEAD] = leftStarts & fits[BORDER];
            state[at + BANNED] = 0;
            state[at + NEEDS] = 0;
        }

        private int allFollowers(int some) {
            int all = 0;
            int rest = some;
            for (int k = 0; k < PART_BITS && rest != 0; k++) {
                all |= followers[Integer.numberOfTrailingZeros(rest) & 31];
                rest &= rest - 1;
            }
            return all;
        }

        /** One pair more: from the state at one place of the row to that at another; false: the rule is broken. */
        private boolean stepOn(int[] state, int from, int to, int next) {
            if (next < 0 || next >= BORDER) {
                return false;
            }
            int fit = fits[next];
            int ahead = state[from + AHEAD];
            int banned = state[from + BANNED] & fit;
            if ((banned & rightEnds) != 0) {
                return false;
            }
            banned = allFollowers(banned);
            int needs = carryNeeds(state, from, to, fit);
            if (needs == NONE) {
                return false;
            }
            if (isAsked(next) || isForbidden(next)) {
                int holding = contextsHolding(ahead);
                boolean holdsAlready = (holding & rightEmpty) != 0;
                int rest = startsBehind(holding);
                if (isForbidden(next)) {
                    if (holdsAlready) {
                        return false;
                    }
                    banned |= rest;
                } else if (!holdsAlready) {
                    if (rest == 0 || needs >= WORD_LIMIT) {
                        return false;
                    }
                    state[to + NEED + needs] = rest;
                    needs++;
                }
            }
            state[to + AHEAD] = (allFollowers(ahead) | leftStarts) & fit;
            state[to + BANNED] = banned;
            state[to + NEEDS] = needs;
            return true;
        }

        /** Moves the needs over one pair; one that comes to its end is met. How many are left; NONE: one can't be. */
        private int carryNeeds(int[] state, int from, int to, int fit) {
            int needs = 0;
            for (int n = 0; n < state[from + NEEDS] && n < WORD_LIMIT; n++) {
                int need = state[from + NEED + n] & fit;
                if ((need & rightEnds) == 0) {
                    need = allFollowers(need);
                    if (need == 0) {
                        return NONE;
                    }
                    state[to + NEED + needs] = need;
                    needs++;
                }
            }
            return needs;
        }

        /** Whether this pair may stand only where a context holds. */
        private boolean isAsked(int next) {
            return next == pair && (operator == Tokens.ONLY || operator == Tokens.BOTH);
        }

        /** Whether this pair may not stand where a context holds. */
        private boolean isForbidden(int next) {
            if (next == pair) {
                return operator == Tokens.NEVER;
            }
            return (pairsOfDeep >> next & 1) != 0 && (operator == Tokens.ALWAYS || operator == Tokens.BOTH);
        }

        /** The contexts whose left side holds, a bit each. */
        private int contextsHolding(int ahead) {
            int holding = leftEmpty;
            for (int c = 0; c < contexts; c++) {
                if ((ahead & leftEnds[c]) != 0) {
                    holding |= 1 << c;
                }
            }
            return holding;
        }

        /** Whether two pairs are the same to this rule. */
        private boolean takesAlike(int one, int other) {
            return fits[one] == fits[other] && isAsked(one) == isAsked(other) && isForbidden(one) == isForbidden(other);
        }

        private int startsBehind(int holding) {
            int starts = 0;
            for (int c = 0; c < contexts; c++) {
                if ((holding >> c & 1) != 0) {
                    starts |= rightStarts[c];
                }
            }
            return starts;
        }

        private boolean endsWell(int[] state, int at) {
            int fit = fits[BORDER] & rightEnds;
            if ((state[at + BANNED] & fit) != 0) {
                return false;
            }
            for (int n = 0; n < state[at + NEEDS]; n++) {
                if ((state[at + NEED + n] & fit) == 0) {
                    return false;
                }
            }
            return true;
        }
    }

    /** Nodes with features that can become one another; a workbench that every call clears. */
    private static final class Graph {
        /** A rule for sentences needs the most: two structures of 41 nodes, its own, and those of 8 equations. */
        private static final int ROOM = 256;

        private final int[] heirs = new int[ROOM];
        private final int[] atoms = new int[ROOM];
        private final int[] firsts = new int[ROOM];
        private int nodes;
        private final int[] featureNames = new int[ROOM];
        private final int[] featureNodes = new int[ROOM];
        private final int[] featureNexts = new int[ROOM];
        private int features;
        private final int[] agenda = new int[2 * ROOM + 2];
        private final int[] marks = new int[ROOM];
        private final int[] queue = new int[ROOM];
        private final int[] matches = new int[SHAPE_LIMIT + 1];
        private final int[] result = new int[SHAPE_WIDTH];

        private void clear() {
            nodes = 0;
            features = 0;
        }

        private static void copyShape(int[] from, int[] to) {
            int width = 1 + 3 * from[0];
            if (width <= from.length && width <= to.length) {
                System.arraycopy(from, 0, to, 0, width);
            }
        }

        /** The atom that is a shape's cat, or NONE. */
        private static int catOf(int[] shape) {
            for (int f = 0; f < shape[0] && 3 * f + 3 < shape.length; f++) {
                if (shape[3 * f + 1] == 0 && shape[3 * f + 2] == Names.CAT) {
                    return shape[3 * f + 3] < 0 ? -1 - shape[3 * f + 3] : NONE;
                }
            }
            return NONE;
        }

        private boolean isNode(int node) {
            return node >= 0 && node < nodes;
        }

        /** A new empty node, or NONE. */
        private int addNode() {
            if (nodes >= ROOM) {
                return NONE;
            }
            heirs[nodes] = nodes;
            atoms[nodes] = NONE;
            firsts[nodes] = NONE;
            nodes++;
            return nodes - 1;
        }

        private int addAtom(int name) {
            int node = addNode();
            makeAtom(node, name);
            return node;
        }

        private void makeAtom(int node, int name) {
            if (node >= 0 && node < nodes) {
                atoms[node] = name;
            }
        }

        private void link(int owner, int name, int node) {
            if (isNode(owner) && isNode(node) && features < ROOM) {
                featureNames[features] = name;
                featureNodes[features] = node;
                featureNexts[features] = firsts[owner];
                firsts[owner] = features;
                features++;
            }
        }

        /** A copy of a shape: its top node, or NONE. */
        private int load(int[] shape) {
            if (nodes + SHAPE_LIMIT + 1 > ROOM || features + SHAPE_LIMIT > ROOM || shape[0] > SHAPE_LIMIT) {
                return NONE;
            }
            int known = 1;
            matches[0] = addNode();
            for (int f = 0; f < shape[0] && 3 * f + 3 < shape.length; f++) {
                int owner = shape[3 * f + 1];
                int value = shape[3 * f + 3];
                int node;
                if (value < 0) {
                    node = addAtom(-1 - value);
                } else if (value < known) {
                    node = matches[value];
                } else {
                    node = addNode();
                    matches[known] = node;
                    known++;
                }
                link(matches[owner], shape[3 * f + 2], node);
            }
            return matches[0];
        }

        /** What a node has become. */
        private int heirOf(int node) {
            int heir = node;
            for (int k = 0; k < ROOM && heirs[heir] != heir; k++) {
                heir = heirs[heir];
            }
            return heir;
        }

        /** The feature of a node (that has become no other) by its name, or NONE. */
        private int featureOf(int node, int name) {
            int feature = firsts[node];
            for (int k = 0; k < ROOM && feature >= 0; k++) {
                if (featureNames[feature] == name) {
                    return feature;
                }
                feature = featureNexts[feature];
            }
            return NONE;
        }

        private int childOf(int node, int name) {
            if (!isNode(node)) {
                return NONE;
            }
            int feature = featureOf(heirOf(node), name);
            return feature == NONE ? NONE : featureNodes[feature];
        }

        /** Down by a feature that comes if it is missing; NONE at an atom. */
        private int stepDown(int node, int name) {
            if (!isNode(node)) {
                return NONE;
            }
            int owner = heirOf(node);
            if (atoms[owner] != NONE) {
                return NONE;
            }
            int feature = featureOf(owner, name);
            if (feature != NONE) {
                return featureNodes[feature];
            }
            int child = addNode();
            link(owner, name, child);
            return child;
        }

        /** Two nodes become one, with all that follows; false if that fails. Rings are left to settle(). */
        private boolean join(int one, int other) {
            if (!isNode(one) || !isNode(other)) {
                return false;
            }
            agenda[0] = one;
            agenda[1] = other;
            int size = 2;
            for (int k = 0; k <= ROOM && size >= 2; k++) {
                size -= 2;
                int heir = heirOf(agenda[size]);
                int gone = heirOf(agenda[size + 1]);
                if (heir != gone) {
                    if (!mayJoin(heir, gone)) {
                        return false;
                    }
                    heirs[gone] = heir;
                    atoms[heir] = Math.max(atoms[heir], atoms[gone]);
                    size = inherit(heir, gone, size);
                }
            }
            return size == 0;
        }

        private boolean mayJoin(int one, int other) {
            if (atoms[one] != NONE && atoms[other] != NONE) {
                return atoms[one] == atoms[other];
            }
            if (atoms[one] != NONE) {
                return firsts[other] == NONE;
            }
            return atoms[other] == NONE || firsts[one] == NONE;
        }

        /** The features of one node go to another; those of one name go on the agenda, whose size is answered. */
        private int inherit(int heir, int gone, int agendaSize) {
            int size = agendaSize;
            int feature = firsts[gone];
            for (int k = 0; k < ROOM && feature >= 0; k++) {
                int next = featureNexts[feature];
                int own = featureOf(heir, featureNames[feature]);
                if (own == NONE) {
                    featureNexts[feature] = firsts[heir];
                    firsts[heir] = feature;
                } else if (size + 1 < agenda.length) {
                    agenda[size] = featureNodes[own];
                    agenda[size + 1] = featureNodes[feature];
                    size += 2;
                }
                feature = next;
            }
            return size;
        }

        /** Whether no node lies within itself and the structure is small enough; then it stands in result. */
        private boolean settle(int root) {
            return isNode(root) && isRingless() && pack(root);
        }

        /** Takes away, again and again, nodes to which no feature leads: what is in a ring stays. */
        private boolean isRingless() {
            Arrays.fill(marks, 0, nodes, 0);
            int live = 0;
            for (int n = 0; n < nodes; n++) {
                if (heirs[n] == n) {
                    live++;
                    countLeads(n);
                }
            }
            int size = 0;
            for (int n = 0; n < nodes; n++) {
                if (heirs[n] == n && marks[n] == 0) {
                    queue[size] = n;
                    size++;
                }
            }
            for (int k = 0; k < size && k < ROOM; k++) {
                int feature = firsts[queue[k]];
                for (int f = 0; f < ROOM && feature >= 0; f++) {
                    int child = heirOf(featureNodes[feature]);
                    marks[child]--;
                    if (marks[child] == 0 && size < ROOM) {
                        queue[size] = child;
                        size++;
                    }
                    feature = featureNexts[feature];
                }
            }
            return size == live;
        }

        private void countLeads(int node) {
            int feature = firsts[node];
            for (int f = 0; f < ROOM && feature >= 0; f++) {
                marks[heirOf(featureNodes[feature])]++;
                feature = featureNexts[feature];
            }
        }

        /** Numbers the nodes below as they come, level by level, so that each has its number ahead of its features. */
        private boolean pack(int root) {
            Arrays.fill(marks, 0, nodes, NONE);
            queue[0] = heirOf(root);
            marks[queue[0]] = 0;
            int size = 1;
            int used = 0;
            for (int k = 0; k < size && k < ROOM; k++) {
                int feature = firsts[queue[k]];
                for (int f = 0; f < ROOM && feature >= 0; f++) {
                    if (used >= SHAPE_LIMIT) {
                        return false;
                    }
                    int child = heirOf(featureNodes[feature]);
                    if (atoms[child] == NONE && marks[child] == NONE) {
                        marks[child] = size;
                        queue[size] = child;
                        size++;
                    }
                    result[3 * used + 1] = k;
                    result[3 * used + 2] = featureNames[feature];
                    result[3 * used + 3] = atoms[child] == NONE ? marks[child] : -1 - atoms[child];
                    used++;
                    feature = featureNexts[feature];
                }
            }
            result[0] = used;
            return true;
        }

        /** Whether a shape is above another one: each node of it that is no atom is matched with one value there. */
        private boolean covers(int[] above, int[] below) {
            Arrays.fill(matches, Integer.MIN_VALUE);
            matches[0] = 0;
            for (int f = 0; f < above[0] && 3 * f + 3 < above.length; f++) {
                int owner = matches[above[3 * f + 1]];
                int value = above[3 * f + 3];
                int found = owner < 0 ? NONE : featureInShape(below, owner, above[3 * f + 2]);
                if (found == NONE) {
                    return false;
                }
                int met = below[3 * found + 3];
                int due = value < 0 ? value : matches[value];
                if (due == Integer.MIN_VALUE) {
                    matches[value] = met;
                } else if (due != met) {
                    return false;
                }
            }
            return true;
        }

        private static int featureInShape(int[] shape, int owner, int name) {
            for (int f = 0; f < shape[0] && 3 * f + 3 < shape.length; f++) {
                if (shape[3 * f + 1] == owner && shape[3 * f + 2] == name) {
                    return f;
                }
            }
            return NONE;
        }
    }

    /** Writes a shape as bytes, and keeps what was written. */
    private static final class Scribe {
        /** 40 features: a name of 12, two blanks, an atom of 12 each. */
        private static final int ROOM = 1200;

        private final Names names;
        private final byte[] bytes = new byte[ROOM];
        private int length;
        private final int[] leads = new int[SHAPE_LIMIT + 1];
        private final int[] tags = new int[SHAPE_LIMIT + 1];
        private int tagsUsed;

        private Scribe(Names names) {
            this.names = names;
        }

        private int writeShape(int[] shape) {
            length = 0;
            tagsUsed = 0;
            Arrays.fill(leads, 0);
            Arrays.fill(tags, 0);
            for (int f = 0; f < shape[0] && 3 * f + 3 < shape.length; f++) {
                int value = shape[3 * f + 3];
                if (value >= 0 && value < leads.length) {
                    leads[value]++;
                }
            }
            writeNode(shape, 0, 0);
            return length;
        }

        private void writeNode(int[] shape, int node, int depth) {
            if (depth > SHAPE_LIMIT || node < 0 || node >= tags.length) {
                return;
            }
            if (leads[node] > 1) {
                boolean known = tags[node] > 0;
                if (!known) {
                    tagsUsed++;
                    tags[node] = tagsUsed;
                }
                putTag(tags[node]);
                if (known) {
                    return;
                }
                put('=');
            }
            put('{');
            int feature = nextFeature(shape, node, NONE);
            for (int k = 0; k < SHAPE_LIMIT && feature >= 0; k++) {
                if (k > 0) {
                    put(' ');
                }
                putName(shape[3 * feature + 2]);
                put(' ');
                int value = shape[3 * feature + 3];
                if (value < 0) {
                    putName(-1 - value);
                } else {
                    writeNode(shape, value, depth + 1);
                }
                feature = nextFeature(shape, node, shape[3 * feature + 2]);
            }
            put('}');
        }

        /** The feature of a node whose name comes next behind one by bytes (or first, behind NONE); NONE: none. */
        private int nextFeature(int[] shape, int node, int behind) {
            int best = NONE;
            for (int f = 0; f < shape[0] && 3 * f + 3 < shape.length; f++) {
                int name = shape[3 * f + 2];
                if (shape[3 * f + 1] == node && (behind == NONE || names.isBefore(behind, name))
                        && (best == NONE || names.isBefore(name, shape[3 * best + 2]))) {
                    best = f;
                }
            }
            return best;
        }

        private void put(int c) {
            if (length < ROOM) {
                bytes[length] = (byte) c;
                length++;
            }
        }

        private void putTag(int tag) {
            put('#');
            if (tag >= 10) {
                put('0' + tag / 10);
            }
            put('0' + tag % 10);
        }

        private void putName(int name) {
            for (int i = 0; i < names.lengthOf(name); i++) {
                put(names.byteOf(name, i));
            }
        }
    }

    /** Rows of at most 8 letters, each once, ordered by bytes: a number each, the first byte highest. */
    private static final class Spellings {
        private final long[] list;
        private int size;

        private Spellings(int room) {
            list = new long[Math.max(room, 1)];
        }

        private void clear() {
            size = 0;
        }

        private void add(long spelling) {
            int at = size;
            for (int k = size - 1; k >= 0 && list[k] >= spelling; k--) {
                at = k;
            }
            if (size >= list.length || at < size && list[at] == spelling) {
                return;
            }
            for (int k = size; k > at; k--) {
                list[k] = list[k - 1];
            }
            list[at] = spelling;
            size++;
        }

        private static long withLetter(long spelling, int at, int letter) {
            return at < 0 || at >= SHORT_LIMIT ? spelling : spelling | (long) letter << 56 - 8 * at;
        }

        /** Puts the letters into a row: how many. */
        private static int lettersOf(long spelling, int[] letters) {
            int length = 0;
            for (int i = 0; i < SHORT_LIMIT && i < letters.length; i++) {
                int letter = (int) (spelling >>> 56 - 8 * i) & 255;
                if (letter != 0) {
                    letters[i] = letter;
                    length++;
                }
            }
            return length;
        }

        private int byteAt(int k, int i) {
            if (k < 0 || k >= size || k >= list.length || i < 0) {
                return NONE;
            }
            return i >= SHORT_LIMIT ? 0 : (int) (list[k] >>> 56 - 8 * i) & 255;
        }

        /** All words of at most 8 letters that come of one by a letter taken out, put in, or changed. */
        private void addNeighbours(Text text, int[] word, int length) {
            for (int at = 0; at <= length; at++) {
                if (at < length && length > 1) {
                    add(changed(word, length, at, 1, 0));
                }
                for (int l = 0; l < text.letterCount; l++) {
                    int letter = text.letters[l];
                    if (Text.isSmall(letter)) {
                        if (at < length && letter != word[at]) {
                            add(changed(word, length, at, 1, letter));
                        }
                        if (length < SHORT_LIMIT) {
                            add(changed(word, length, at, 0, letter));
                        }
                    }
                }
            }
        }

        /** A word without some letters from a place on, with a letter (0: none) there. */
        private static long changed(int[] word, int length, int at, int without, int letter) {
            long spelling = 0;
            int size = 0;
            for (int i = 0; i <= length && i < word.length; i++) {
                if (i == at && letter != 0) {
                    spelling = withLetter(spelling, size, letter);
                    size++;
                }
                if (i < length && (i < at || i >= at + without)) {
                    spelling = withLetter(spelling, size, word[i]);
                    size++;
                }
            }
            return spelling;
        }
    }

    /** Looks through pair strings, with the rules going along pair by pair. */
    private static final class PairStrings {
        private final Spellings made = new Spellings(FORM_LIMIT + 1);
        private final int[] states = new int[(SHORT_LIMIT + 1) * RULE_LIMIT * Rule.STATE_WIDTH];
        private Text text;
        private int[] deep;
        private int length;
        private final int[] kinds = new int[PAIR_LIMIT];
        private int kindCount;
        private final int[] path = new int[DIFFER_LIMIT];
        private Rule kept;
        private Rule broken;

        private static int stateAt(int depth, int rule) {
            return (depth * RULE_LIMIT + rule) * Rule.STATE_WIDTH;
        }

        /** How many written sides a deep side has, or MANY. */
        private int makeForms(Text told, int[] letters, int count) {
            text = told;
            deep = letters;
            length = Math.min(count, SHORT_LIMIT);
            made.clear();
            for (int r = 0; r < text.ruleCount; r++) {
                text.rules[r].startAt(states, stateAt(0, r));
            }
            growForm(0, 0, 0);
            if (made.size > FORM_LIMIT) {
                made.clear();
                return MANY;
            }
            return made.size;
        }

        private void growForm(int depth, long written, int size) {
            if (made.size > FORM_LIMIT) {
                return;
            }
            if (depth >= length) {
                if (allEndWell(depth)) {
                    made.add(written);
                }
                return;
            }
            int pairs = text.pairsOfLetter(deep[depth]);
            for (int p = 0; p < text.pairCount; p++) {
                if ((pairs >> p & 1) != 0 && allStepOn(depth, p)) {
                    int letter = text.writtenOf[p];
                    long longer = Spellings.withLetter(written, size, letter);
                    growForm(depth + 1, longer, letter == 0 ? size : size + 1);
                }
            }
        }

        private boolean allStepOn(int depth, int pair) {
            for (int r = 0; r < text.ruleCount; r++) {
                if (!text.rules[r].stepOn(states, stateAt(depth, r), stateAt(depth + 1, r), pair)) {
                    return false;
                }
            }
            return true;
        }

        private boolean allEndWell(int depth) {
            for (int r = 0; r < text.ruleCount; r++) {
                if (!text.rules[r].endsWell(states, stateAt(depth, r))) {
                    return false;
                }
            }
            return true;
        }

        /** The first shortest pair string of which one rule holds and the other does not, as a number; 0: none. */
        private long parting(Text told, Rule one, Rule other) {
            text = told;
            kept = one;
            broken = other;
            gatherKinds();
            kept.startAt(states, stateAt(0, 0));
            broken.startAt(states, stateAt(0, 1));
            for (int size = 0; size <= DIFFER_LIMIT; size++) {
                if (findParting(0, size, false)) {
                    long code = size + 1;
                    for (int i = 0; i < size; i++) {
                        code = 32 * code + path[i];
                    }
                    return code;
                }
            }
            return 0;
        }

        /** Of pairs that are alike to both rules the first one is enough: it comes first in the order, too. */
        private void gatherKinds() {
            kindCount = 0;
            for (int p = 0; p < text.pairCount; p++) {
                boolean fresh = true;
                for (int k = 0; k < kindCount && fresh; k++) {
                    fresh = !kept.takesAlike(kinds[k], p) || !broken.takesAlike(kinds[k], p);
                }
                if (fresh) {
                    kinds[kindCount] = p;
                    kindCount++;
                }
            }
        }

        private boolean findParting(int depth, int size, boolean isBroken) {
            if (depth >= size || depth >= DIFFER_LIMIT) {
                return kept.endsWell(states, stateAt(depth, 0))
                        && (isBroken || !broken.endsWell(states, stateAt(depth, 1)));
            }
            for (int k = 0; k < kindCount; k++) {
                int pair = kinds[k];
                if (kept.stepOn(states, stateAt(depth, 0), stateAt(depth + 1, 0), pair)) {
                    boolean breaks = isBroken
                            || !broken.stepOn(states, stateAt(depth, 1), stateAt(depth + 1, 1), pair);
                    path[depth] = pair;
                    if (findParting(depth + 1, size, breaks)) {
                        return true;
                    }
                }
            }
            return false;
        }
    }

    /** A word's candidates, in order, and its analyses. A way is one number: of each entry 1 more than it, a byte. */
    private static final class WordSearch {
        private final Graph graph;
        private Text text;
        private int length;
        private final int[] placesOf = new int[ASCII];
        private final int[] deep = new int[WORD_LIMIT];
        private final int[] reaches = new int[WORD_LIMIT + 1];
        private final int[] pairs = new int[WORD_LIMIT];
        private final int[] state = new int[Rule.STATE_WIDTH];
        private final int[] wayOf = new int[CANDIDATE_LIMIT];
        private final long[] pairsAhead = new long[CANDIDATE_LIMIT];
        private final long[] pairsBehind = new long[CANDIDATE_LIMIT];
        private int found;
        private final int[] ways = new int[CANDIDATE_LIMIT];
        private int analyses;

        private WordSearch(Graph graph) {
            this.graph = graph;
        }

        private void clear() {
            found = 0;
            analyses = 0;
        }

        private boolean isMany() {
            return found > CANDIDATE_LIMIT;
        }

        private static int entryOf(int way, int i) {
            return i < 0 || i >= WAY_LIMIT ? NONE : (way >>> 8 * i & 255) - 1;
        }

        private int pairOf(int c, int i) {
            if (c < 0 || c >= found || c >= CANDIDATE_LIMIT || i < 0 || i >= WORD_LIMIT) {
                return NONE;
            }
            long half = i < 8 ? pairsAhead[c] : pairsBehind[c];
            return (int) (half >>> 8 * (i & 7) & 255) - 1;
        }

        /** Finds all candidates and judges them; if firstOnly, one analysis is enough. */
        private void explore(Text told, int[] letters, int count, boolean firstOnly) {
            clear();
            text = told;
            length = Math.min(count, Math.min(letters.length, WORD_LIMIT));
            Arrays.fill(placesOf, 0);
            for (int i = 0; i < length; i++) {
                if (letters[i] >= 0 && letters[i] < ASCII) {
                    placesOf[letters[i]] |= 1 << i;
                }
            }
            goOn(text.lexiconNumber(Names.ROOT), 0, 1, 0, 0);
            int refused = 0;
            for (int c = 0; c < found && !isMany(); c++) {
                int way = wayOf[c];
                boolean settled = way == refused || analyses > 0 && ways[analyses - 1] == way;
                if (!settled && firstBroken(c) == ALL_HOLD) {
                    if (blends(way)) {
                        ways[analyses] = way;
                        analyses++;
                    } else {
                        refused = way;
                    }
                }
                if (firstOnly && analyses > 0) {
                    return;
                }
            }
        }

        /** All ways that go on in a lexicon; reach has a bit for each number of letters that may be written so far. */
        private void goOn(int lexicon, int depth, int reach, int deepLength, int way) {
            if (lexicon < 0 || lexicon >= text.lexiconCount || depth >= WAY_LIMIT) {
                return;
            }
            int end = Math.min(text.lexicons[lexicon][LEXICON_END], text.entryCount);
            for (int e = text.lexicons[lexicon][LEXICON_FIRST]; e < end && !isMany(); e++) {
                int[] entry = text.entries[e];
                int longer = deepLength + entry[ENTRY_LENGTH];
                if (longer <= WORD_LIMIT) {
                    int reached = reachBehind(entry, reach, deepLength);
                    int wider = way | e + 1 << 8 * depth;
                    if (reached != 0 && entry[ENTRY_GOAL] != NONE) {
                        goOn(entry[ENTRY_GOAL], depth + 1, reached, longer, wider);
                    } else if ((reached >> length & 1) != 0) {
                        spreadBack(longer);
                        addCandidates(0, 0, longer, wider);
                    }
                }
            }
        }

        private int reachBehind(int[] entry, int reach, int deepLength) {
            int reached = reach;
            for (int i = 0; i < entry[ENTRY_LENGTH] && deepLength + i < WORD_LIMIT; i++) {
                int letter = entry[ENTRY_DEEP + i];
                deep[deepLength + i] = letter;
                int mask = text.pairsOfLetter(letter);
                int next = 0;
                for (int p = 0; p < text.pairCount; p++) {
                    if ((mask >> p & 1) != 0) {
                        int written = text.writtenOf[p];
                        next |= written == 0 ? reached : (reached & placesOf[written]) << 1;
                    }
                }
                reached = next;
            }
            return reached;
        }

        /** For each deep letter of a way: the places of the word from which the rest of the way can come to its end. */
        private void spreadBack(int deepLength) {
            reaches[deepLength] = 1 << length;
            for (int i = deepLength - 1; i >= 0; i--) {
                int mask = text.pairsOfLetter(deep[i]);
                int reached = 0;
                for (int p = 0; p < text.pairCount; p++) {
                    if ((mask >> p & 1) != 0) {
                        int written = text.writtenOf[p];
                        reached |= written == 0 ? reaches[i + 1] : reaches[i + 1] >> 1 & placesOf[written];
                    }
                }
                reaches[i] = reached;
            }
        }

        private void addCandidates(int at, int place, int deepLength, int way) {
            if (isMany()) {
                return;
            }
            if (at >= deepLength || at >= WORD_LIMIT) {
                addCandidate(deepLength, way);
                return;
            }
            int mask = text.pairsOfLetter(deep[at]);
            for (int p = 0; p < text.pairCount; p++) {
                if ((mask >> p & 1) != 0) {
                    int written = text.writtenOf[p];
                    boolean fits = written == 0 || (placesOf[written] >> place & 1) != 0;
                    int next = written == 0 ? place : place + 1;
                    if (fits && (reaches[at + 1] >> next & 1) != 0) {
                        pairs[at] = p;
                        addCandidates(at + 1, next, deepLength, way);
                    }
                }
            }
        }

        private void addCandidate(int deepLength, int way) {
            if (found < CANDIDATE_LIMIT) {
                long ahead = 0;
                long behind = 0;
                for (int i = 0; i < deepLength && i < WORD_LIMIT; i++) {
                    long code = (long) (pairs[i] + 1) << 8 * (i & 7);
                    ahead |= i < 8 ? code : 0;
                    behind |= i < 8 ? 0 : code;
                }
                wayOf[found] = way;
                pairsAhead[found] = ahead;
                pairsBehind[found] = behind;
            }
            found++;
        }

        /** The first rule that does not hold of a candidate, or ALL_HOLD. */
        private int firstBroken(int c) {
            int size = 0;
            for (int i = 0; i < WORD_LIMIT && pairOf(c, i) != NONE; i++) {
                pairs[i] = pairOf(c, i);
                size++;
            }
            for (int r = 0; r < text.ruleCount; r++) {
                if (!text.rules[r].allows(pairs, size, state)) {
                    return r;
                }
            }
            return ALL_HOLD;
        }

        /** Whether the structures of a way can be unified; then what comes stands in the graph's result. */
        private boolean blends(int way) {
            graph.clear();
            int top = NONE;
            for (int i = 0; i < WAY_LIMIT; i++) {
                int entry = entryOf(way, i);
                if (entry >= 0 && entry < text.entryCount) {
                    int node = graph.load(text.shapes[entry]);
                    if (top == NONE) {
                        top = node;
                    } else if (!graph.join(top, node)) {
                        return false;
                    }
                }
            }
            return graph.settle(top);
        }

        private int costOf(int way) {
            int cost = 0;
            for (int i = 0; i < WAY_LIMIT; i++) {
                int entry = entryOf(way, i);
                if (entry >= 0 && entry < text.entryCount) {
                    cost += text.entries[entry][ENTRY_COST];
                }
            }
            return cost;
        }
    }

    /** The trees over a row of words. */
    private static final class Row {
        /** A tree: its rule (or 32 and its analysis), its trees' numbers in their rows, how long the first row is. */
        private static final int RULE = 0;
        private static final int LEFT = 1;
        private static final int RIGHT = 2;
        private static final int SPLIT = 3;
        private static final int COST = 4;
        private static final int NODES = 5;
        private static final int CAT = 6;
        /** The rules with one tree that stand over the row from this tree down, a bit each. */
        private static final int CHAIN = 7;
        private static final int RANK = 8;
        private static final int WIDTH = 9;

        private final long[] words = new long[SENTENCE_LIMIT];
        private int length;
        private int stamp;
        private boolean many;
        private int size;
        private final int[][] trees = new int[TREE_LIMIT][WIDTH];
        private final int[][] shapes = new int[TREE_LIMIT][SHAPE_WIDTH];

        private boolean isOf(long[] sentence, int i, int j) {
            if (length != j - i + 1 || i < 0 || j >= sentence.length) {
                return false;
            }
            for (int k = 0; k < length; k++) {
                if (words[k] != sentence[i + k]) {
                    return false;
                }
            }
            return true;
        }

        /** Whether the tree is a rule with one tree. */
        private boolean isChain(int tree) {
            return trees[tree][LEFT] != NONE && trees[tree][RIGHT] == NONE;
        }

        private boolean isBefore(int tree, int other) {
            int one = tree;
            int two = other;
            for (int k = 0; k < TREE_LIMIT; k++) {
                int rankOne = rankOf(one);
                int rankTwo = rankOf(two);
                if (rankOne != rankTwo) {
                    return rankOne < rankTwo;
                }
                if (!isChain(one) || !isChain(two)) {
                    return one < two;
                }
                one = trees[one][LEFT];
                two = trees[two][LEFT];
            }
            return false;
        }

        private int rankOf(int tree) {
            int rule = trees[tree][RULE];
            return rule >= ALL_HOLD ? NONE : rule;
        }
    }

    /** The sentence, the rows that are kept, and the readings. */
    private static final class Chart {
        private static final int NODE_LIMIT = 1000;
        private static final int STACK_ROOM = 64;

        private final Graph graph;
        private final WordSearch search;
        private Text text;
        private final long[] words = new long[SENTENCE_LIMIT];
        private int wordCount;
        private final Row[] rows = new Row[KEPT_LIMIT];
        private int kept;
        private int clock;
        private int workedEver;
        private int workedLately;
        private final int[] slots = new int[SENTENCE_LIMIT * SENTENCE_LIMIT];
        private final Row bench = new Row();
        private final int[] order = new int[TREE_LIMIT];
        private final int[] tops = new int[3];
        private final int[] letters = new int[WORD_LIMIT];
        private final int[] stack = new int[STACK_ROOM];
        private final int[] readings = new int[TREE_LIMIT];
        private int readingCount;
        private int best;
        private int lastWord;

        private Chart(Graph graph, WordSearch search) {
            this.graph = graph;
            this.search = search;
        }

        private void clear() {
            wordCount = 0;
            kept = 0;
            clock = 0;
            workedEver = 0;
            workedLately = 0;
            readingCount = 0;
        }

        private void begin(Text told) {
            text = told;
            workedLately = 0;
        }

        // ---- rows

        /** The row of words i to j as it was read lately, or null. */
        private Row rowAt(int i, int j) {
            if (i < 0 || j < i || j >= SENTENCE_LIMIT) {
                return null;
            }
            int slot = slots[i * SENTENCE_LIMIT + j];
            return slot < 0 || slot >= kept ? null : rows[slot];
        }

        private void place(int i, int j, int slot) {
            slots[i * SENTENCE_LIMIT + j] = slot;
            clock++;
            rows[slot].stamp = clock;
        }

        /** Whether the row is kept; then it becomes the latest. */
        private boolean recalls(int i, int j) {
            for (int slot = 0; slot < kept; slot++) {
                if (rows[slot].isOf(words, i, j)) {
                    place(i, j, slot);
                    return true;
                }
            }
            return false;
        }

        /** Keeps the row whose trees lie on the bench (too many, unless few), in their order. */
        private void keep(int i, int j, boolean few) {
            int slot = freeSlot();
            Row row = rows[slot];
            row.length = j - i + 1;
            System.arraycopy(words, i, row.words, 0, row.length);
            row.many = !few;
            row.size = few ? bench.size : 0;
            if (few) {
                orderBench();
                for (int t = 0; t < row.size; t++) {
                    System.arraycopy(bench.trees[order[t]], 0, row.trees[t], 0, Row.WIDTH);
                    Graph.copyShape(bench.shapes[order[t]], row.shapes[t]);
                    if (row.isChain(t)) {
                        row.trees[t][Row.LEFT] = bench.trees[row.trees[t][Row.LEFT]][Row.RANK];
                    }
                }
            }
            place(i, j, slot);
            workedEver++;
            workedLately++;
        }

        /** A slot that is free, or that of the row that was read longest ago. */
        private int freeSlot() {
            if (kept < KEPT_LIMIT) {
                if (rows[kept] == null) {
                    rows[kept] = new Row();
                }
                kept++;
                return kept - 1;
            }
            int oldest = 0;
            for (int slot = 1; slot < kept; slot++) {
                if (rows[slot].stamp < rows[oldest].stamp) {
                    oldest = slot;
                }
            }
            return oldest;
        }

        private void orderBench() {
            for (int t = 0; t < bench.size; t++) {
                int at = t;
                while (at > 0 && bench.isBefore(t, order[at - 1])) {
                    order[at] = order[at - 1];
                    at--;
                }
                order[at] = t;
            }
            for (int k = 0; k < bench.size; k++) {
                bench.trees[order[k]][Row.RANK] = k;
            }
        }

        // ---- trees

        /** Puts the analyses of a word on the bench; false: too many. */
        private boolean seedWord(int i) {
            bench.size = 0;
            int length = text.lettersOfCode(words[i], letters);
            search.explore(text, letters, length, false);
            if (search.isMany() || search.analyses > TREE_LIMIT) {
                return false;
            }
            for (int k = 0; k < search.analyses; k++) {
                int way = search.ways[k];
                if (!search.blends(way) || !addTree(ALL_HOLD + k, NONE, NONE, 0, search.costOf(way), 1)) {
                    return false;
                }
            }
            return true;
        }

        /** Puts the trees of rules with two trees on the bench, in their order; false: too many. */
        private boolean seedPairs(int i, int j) {
            bench.size = 0;
            int pairs = 0;
            for (int m = i; m < j; m++) {
                Row left = rowAt(i, m);
                Row right = rowAt(m + 1, j);
                if (left == null || right == null || left.many || right.many) {
                    return false;
                }
                pairs += left.size * right.size;
            }
            if (pairs > TREE_PAIR_LIMIT) {
                return false;
            }
            for (int g = 0; g < text.grammarCount; g++) {
                for (int m = i; m < j && text.grammar[g][GRAMMAR_SECOND] != NONE; m++) {
                    if (!seedSplit(g, rowAt(i, m), rowAt(m + 1, j))) {
                        return false;
                    }
                }
            }
            return true;
        }

        private boolean seedSplit(int g, Row left, Row right) {
            if (left == null || right == null) {
                return false;
            }
            int[] grammar = text.grammar[g];
            for (int l = 0; l < left.size; l++) {
                int[] first = left.trees[l];
                for (int r = 0; r < right.size && mayBe(first, grammar[GRAMMAR_FIRST]); r++) {
                    int[] second = right.trees[r];
                    if (mayBe(second, grammar[GRAMMAR_SECOND]) && putUpon(grammar, left.shapes[l], right.shapes[r])) {
                        int cost = grammar[GRAMMAR_COST] + first[Row.COST] + second[Row.COST];
                        int nodes = 1 + first[Row.NODES] + second[Row.NODES];
                        if (!addTree(g, l, r, left.length, cost, nodes)) {
                            return false;
                        }
                    }
                }
            }
            return true;
        }

        /** Spares putting a rule upon a tree whose cat is another atom. */
        private static boolean mayBe(int[] tree, int cat) {
            return tree[Row.CAT] == NONE || tree[Row.CAT] == cat;
        }

        /** Puts the trees of rules with one tree on the bench, over all that lies there; false: too many. */
        private boolean growChains() {
            for (int t = 0; t < bench.size && t < TREE_LIMIT; t++) {
                int[] tree = bench.trees[t];
                int used = tree[Row.CHAIN];
                for (int g = 0; g < text.grammarCount; g++) {
                    int[] grammar = text.grammar[g];
                    if (grammar[GRAMMAR_SECOND] == NONE && (used >> g & 1) == 0 && mayBe(tree, grammar[GRAMMAR_FIRST])
                            && putUpon(grammar, bench.shapes[t], bench.shapes[t])) {
                        if (!addTree(g, t, NONE, 0, grammar[GRAMMAR_COST] + tree[Row.COST], 1 + tree[Row.NODES])) {
                            return false;
                        }
                        bench.trees[bench.size - 1][Row.CHAIN] = used | 1 << g;
                    }
                }
            }
            return true;
        }

        /** A tree more on the bench, its structure being the graph's result; false: too many. */
        private boolean addTree(int rule, int left, int right, int split, int cost, int nodes) {
            if (bench.size >= TREE_LIMIT) {
                return false;
            }
            int[] tree = bench.trees[bench.size];
            tree[Row.RULE] = rule;
            tree[Row.LEFT] = left;
            tree[Row.RIGHT] = right;
            tree[Row.SPLIT] = split;
            tree[Row.COST] = cost;
            tree[Row.NODES] = nodes;
            tree[Row.CAT] = Graph.catOf(graph.result);
            tree[Row.CHAIN] = 0;
            Graph.copyShape(graph.result, bench.shapes[bench.size]);
            bench.size++;
            return true;
        }

        /** Whether a rule can be put upon structures; then what comes stands in the graph's result. */
        private boolean putUpon(int[] grammar, int[] first, int[] second) {
            graph.clear();
            tops[0] = graph.addNode();
            tops[1] = graph.load(first);
            tops[2] = grammar[GRAMMAR_SECOND] == NONE ? NONE : graph.load(second);
            for (int x = 0; x < 3; x++) {
                int cat = grammar[GRAMMAR_HEAD + x];
                if (cat != NONE && !graph.join(graph.stepDown(tops[x], Names.CAT), graph.addAtom(cat))) {
                    return false;
                }
            }
            for (int e = 0; e < grammar[GRAMMAR_EQUATIONS]; e++) {
                int side = GRAMMAR_SIDES + 2 * SIDE_WIDTH * e;
                int one = nodeOfSide(grammar, side);
                int other = nodeOfSide(grammar, side + SIDE_WIDTH);
                if (!graph.join(one, other)) {
                    return false;
                }
            }
            return graph.settle(tops[0]);
        }

        private int nodeOfSide(int[] grammar, int side) {
            if (side < 0 || side + SIDE_WIDTH > grammar.length) {
                return NONE;
            }
            if (grammar[side] < 0 || grammar[side] >= SIDE_OF_ATOM) {
                return graph.addAtom(grammar[side + 2]);
            }
            int node = tops[grammar[side]];
            for (int n = 0; n < grammar[side + 1] && n < PATH_LIMIT; n++) {
                node = graph.stepDown(node, grammar[side + 2 + n]);
            }
            return node;
        }

        // ---- readings

        /** How many readings the rows that were just read give, or MANY. */
        private int gatherReadings() {
            readingCount = 0;
            best = 0;
            lastWord = wordCount - 1;
            Row row = rowAt(0, lastWord);
            if (row == null || row.many) {
                return MANY;
            }
            for (int t = 0; t < row.size; t++) {
                if (row.trees[t][Row.CAT] == text.start) {
                    readings[readingCount] = t;
                    if (row.trees[t][Row.COST] < row.trees[readings[best]][Row.COST]) {
                        best = readingCount;
                    }
                    readingCount++;
                }
            }
            return readingCount;
        }

        private int[] shapeOfReading(int k) {
            Row row = rowAt(0, lastWord);
            return row == null || k < 0 || k >= readingCount ? graph.result : row.shapes[readings[k]];
        }

        private int factOfReading(int k, int what) {
            Row row = rowAt(0, lastWord);
            if (row == null || k < 0 || k >= readingCount) {
                return NONE;
            }
            switch (what) {
                case 0: return row.trees[readings[k]][Row.COST];
                case 1: return row.trees[readings[k]][Row.NODES];
                case 2: return row.shapes[readings[k]][0];
                case 3: return k == best ? 1 : 0;
                default: return NONE;
            }
        }

        /** Goes down a reading's tree with a stack of trees that are still to come: first word, last word, number. */
        private int factOfNode(int k, int i, int what) {
            if (k < 0 || k >= readingCount || i < 0 || what < 0 || what > 2) {
                return NONE;
            }
            int size = push(0, 0, lastWord, readings[k]);
            for (int seen = 0; seen < NODE_LIMIT && size >= 3; seen++) {
                size -= 3;
                int first = stack[size];
                int last = stack[size + 1];
                Row row = rowAt(first, last);
                if (row == null) {
                    return NONE;
                }
                int[] tree = row.trees[stack[size + 2]];
                if (seen == i) {
                    return what == 0 ? tree[Row.RULE] : what == 1 ? first : last;
                }
                if (tree[Row.RIGHT] != NONE) {
                    int split = first + tree[Row.SPLIT];
                    size = push(size, split, last, tree[Row.RIGHT]);
                    size = push(size, first, split - 1, tree[Row.LEFT]);
                } else if (tree[Row.LEFT] != NONE) {
                    size = push(size, first, last, tree[Row.LEFT]);
                }
            }
            return NONE;
        }

        private int push(int size, int first, int last, int tree) {
            if (size + 3 > STACK_ROOM) {
                return size;
            }
            stack[size] = first;
            stack[size + 1] = last;
            stack[size + 2] = tree;
            return size + 3;
        }
    }
}
