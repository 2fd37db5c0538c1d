import java.util.Arrays;

/** A typesetting engine whose letters change their classes as it reads. */
public final class Catcodia {
    public static final int NONE = -1000000000;
    public static final int CHARACTER = 0, HBOX = 1, VBOX = 2, RULE = 3, GLUE = 4, KERN = 5, PENALTY = 6, HYPHEN = 7,
        MARK = 8, INSERTION = 9;

    // ---- limits of the document

    private static final int MOST_SIGNS = 480, MOST_STEPS = 1500, MOST_GROUPS = 40, MOST_WITHIN = 40,
        MOST_TOKENS = 600, MOST_ITEMS = 2000, MOST_POURED = 4000, MOST_PLACES = 40, MOST_PAGES = 40,
        MOST_TRIED = 12, MOST_COLUMNS = 6, LARGEST = 1000000;
    /** A document of 480 signs has at most 241 NAMEs, and each of 1500 expansions makes one more at most. */
    private static final int MOST_NAMES = 2048;
    /** The bound of loops for which the document tells none. */
    private static final int FAR = 2000000;

    // ---- how far rows can grow: all that is made counts, so each is made for the most that a run can need

    /** Tokens: what a step, or a page with its \\output, puts ahead is 601 of them at most, beside the document. */
    private static final int MOST_COME = 601 * (MOST_STEPS + MOST_PAGES) + 2 * MOST_SIGNS;
    /** Patterns: 600 tokens take the step of \\patterns and another one that puts them ahead. */
    private static final int MOST_PATTERNS = 601 * (MOST_STEPS / 2) + 2 * MOST_SIGNS;
    /** Items: a line, some 6300 at most, needs a step or something poured, and makes three; so does a step. */
    private static final int MOST_MADE = 40000;
    /** Items of finished lists: those of boxes 8 and 9 for each page, and as many others, with room to spare. */
    private static final int MOST_LISTED = 4 * MOST_ITEMS * MOST_PAGES;
    /** What is made for each step, or for what is poured. */
    private static final int MOST_KEPT = 8192;

    // ---- classes of codes

    private static final int ESCAPE = 0, OPEN = 1, CLOSE = 2, PARAMETER = 3, BLANK = 4, LETTER = 5, OTHER = 6,
        ACTIVE = 7, COMMENT = 8, IGNORED = 9, TAB = 10;

    // ---- tokens: a character is 256 times its class and its code, a NAME is a bit and its number

    private static final int END = -1, NAME = 1 << 16, SLOT = 1 << 18, HELD = 1 << 20;
    /** The } that ends the tokens of \output and of cells; only this one can end them. */
    private static final int FENCE = 1 << 21 | CLOSE << 8 | 125;
    private static final int SPACE = BLANK << 8 | 32, PLUS = OTHER << 8 | 43, MINUS = OTHER << 8 | 45,
        QUOTE = OTHER << 8 | 96, DIGITS = OTHER << 8 | 48, OTHERS = OTHER << 8;

    // ---- variables: all that groups give back; the classes of codes come first

    private static final int ACTIVES = 128, COUNTS = 256, LENS = 266, SKIPS = 276, LISTS = 286, BOXES = 296,
        PARAMETERS = 306, PARAMETER_COUNT = 8, OUTPUT = 314, NAMES = 315;
    private static final int HSIZE = 306, VSIZE = 307, INDENT = 308, BASE = 309, TOL = 310, LOOSE = 311,
        LINEPEN = 312, HYPHPEN = 313;
    private static final int[] FIRST_PARAMETERS = {100, 120, 10, 12, 200, 0, 10, 50};

    // ---- meanings: 0 is none, else 65536 times a kind and the character, macro or command

    private static final int IS_CHARACTER = 1, IS_MACRO = 2, IS_COMMAND = 3;

    // ---- commands, in the order of their names

    private static final String EXPANDABLE_NAMES =
        "expandafter noexpand csname the firstmark botmark ifnum ifx ifvoid else fi ";
    private static final String TYPESETTING_NAMES =
        "endcsname relax par end hskip vskip kern penalty rule mark - insert raise pour leaders align shipout cr wd ht dp ";
    private static final String BOX_NAMES = "global hbox vbox box copy ";
    private static final String ASSIGNING_NAMES =
        "def edef let class count len skip toks output advance multiply divide setbox patterns ";
    private static final String PARAMETER_NAMES = "hsize vsize indent base tol loose linepen hyphpen ";
    private static final int C_EXPANDAFTER = 0, C_NOEXPAND = 1, C_CSNAME = 2, C_THE = 3, C_FIRSTMARK = 4,
        C_BOTMARK = 5, C_IFNUM = 6, C_IFX = 7, C_IFVOID = 8, C_ELSE = 9, C_FI = 10;
    private static final int C_ENDCSNAME = 11, C_RELAX = 12, C_PAR = 13, C_END = 14, C_HSKIP = 15, C_VSKIP = 16,
        C_KERN = 17, C_PENALTY = 18, C_RULE = 19, C_MARK = 20, C_HYPHEN = 21, C_INSERT = 22, C_RAISE = 23,
        C_POUR = 24, C_LEADERS = 25, C_ALIGN = 26, C_SHIPOUT = 27, C_CR = 28, C_WD = 29, C_HT = 30, C_DP = 31,
        C_GLOBAL = 32, C_HBOX = 33, C_VBOX = 34, C_BOX = 35, C_COPY = 36;
    private static final int C_DEF = 37, C_EDEF = 38, C_LET = 39, C_CLASS = 40, C_COUNT = 41, C_LEN = 42, C_SKIP = 43,
        C_TOKS = 44, C_OUTPUT = 45, C_ADVANCE = 46, C_MULTIPLY = 47, C_DIVIDE = 48, C_SETBOX = 49, C_PATTERNS = 50,
        C_HSIZE = 51, COMMAND_COUNT = 59;

    // ---- modes

    private static final int VERTICAL = 0, INNER = 1, PARAGRAPH = 2, ROW = 3;

    // ---- groups, what becomes of their boxes, and how the size of these is told

    private static final int PLAIN_GROUP = 0, BOX_GROUP = 1, INSERT_GROUP = 2, OUTPUT_GROUP = 3, CELL_GROUP = 4;
    private static final int ALONE = 0, TO_REGISTER = 1, RAISED = 2, FOR_LEADERS = 3, SHIPPED = 4;
    private static final int NATURAL = 0, TO = 1, SPREAD = 2;

    // ---- what the run does next

    private static final int NOTHING = 0, LOOK_AT_PAGE = 1, RUN_OUTPUT = 2, MAKE_BOX = 3, MAKE_LEADERS = 4, FINISH = 5,
        TYPESET = 6, ASSIGN = 7, SIGN = 8, BEGIN_GROUP = 9, END_GROUP = 10, END_DOCUMENT = 11;

    // ---- parts of an item; the first four are those that a caller may ask for

    private static final int KIND = 0, WIDTH = 1, HEIGHT = 2, DEPTH = 3, NUMBER = 4, FIRST = 5, SIZE = 6, EXCESS = 7,
        ORDER = 8, TOTAL = 9, WHOLE = 10, PARTS = 11;
    /** Of an insertion alone, which has no order: whether it was left of another one. */
    private static final int IS_REST = 8;

    private final int[] document = new int[MOST_SIGNS];
    private int length;
    private final Engine engine = new Engine();

    public Catcodia() {
    }

    public int feed(long signs, int n) throws IllegalArgumentException, IllegalStateException {
        if (n < 1 || n > 8) throw new IllegalArgumentException("n has to be 1 to 8");
        for (int i = 0; i < n; i++) {
            long sign = signs >> 8 * i & 255;
            if (sign < 1 || sign > 127) throw new IllegalArgumentException("signs have to be 1 to 127");
        }
        if (length + n > MOST_SIGNS) throw new IllegalStateException("the document would be too long");
        for (int i = 0; i < n; i++) document[length + i] = (int) (signs >> 8 * i & 255);
        length += n;
        engine.stale = true;
        return length;
    }

    public int cut(int n) throws IllegalArgumentException {
        if (n < 0 || n > length) throw new IllegalArgumentException("there are not so many signs");
        length -= n;
        engine.stale = true;
        return length;
    }

    public int error() {
        engine.run(document, length);
        return engine.state.error;
    }

    public int steps() {
        engine.run(document, length);
        return engine.state.steps;
    }

    // ---- registers, as they are at the end of the run

    public int classOf(int code) throws IndexOutOfBoundsException {
        if (code < 1 || code > 127) throw new IndexOutOfBoundsException("there is no such code");
        engine.run(document, length);
        return engine.state.value[code];
    }

    public int register(int what, int n) throws IllegalArgumentException, IndexOutOfBoundsException {
        if (what < 0 || what > 9) throw new IllegalArgumentException("what has to be 0 to 9");
        if (n < 0 || n > 9) throw new IndexOutOfBoundsException("there is no such register");
        engine.run(document, length);
        int[] value = engine.state.value;
        if (what == 0) return value[COUNTS + n];
        if (what == 1) return value[LENS + n];
        if (what <= 6) return engine.items.gluePart(value[SKIPS + n], what - 2);
        int box = value[BOXES + n];
        return box == 0 ? NONE : engine.items.part(box, WIDTH + what - 7);
    }

    public int parameter(int which) throws IndexOutOfBoundsException {
        if (which < 0 || which >= PARAMETER_COUNT) throw new IndexOutOfBoundsException("there is no such parameter");
        engine.run(document, length);
        return engine.state.value[PARAMETERS + which];
    }

    // ---- pages and boxes

    public int pages() {
        engine.run(document, length);
        return engine.page.shipped.n;
    }

    public int items(int page) throws IndexOutOfBoundsException {
        engine.run(document, length);
        if (!engine.hasBox(page)) throw new IndexOutOfBoundsException("there is no such page or box");
        return engine.items.whole(engine.boxOf(page));
    }

    public int item(int page, int item, int what) throws IndexOutOfBoundsException, IllegalArgumentException {
        engine.run(document, length);
        if (!engine.hasBox(page)) throw new IndexOutOfBoundsException("there is no such page or box");
        int box = engine.boxOf(page);
        if (item < 0 || item >= engine.items.whole(box)) throw new IndexOutOfBoundsException("there is no such item");
        if (what < 0 || what > 6) throw new IllegalArgumentException("what has to be 0 to 6");
        return engine.items.told(box, item, what);
    }

    // ---- paragraphs

    public int paragraphs() {
        engine.run(document, length);
        return engine.lines.lineCounts.n;
    }

    public int lines(int paragraph) throws IndexOutOfBoundsException {
        engine.run(document, length);
        if (!engine.lines.has(paragraph)) throw new IndexOutOfBoundsException("there is no such paragraph");
        return engine.lines.lineCounts.get(paragraph);
    }

    public long demerits(int paragraph) throws IndexOutOfBoundsException {
        engine.run(document, length);
        if (!engine.lines.has(paragraph)) throw new IndexOutOfBoundsException("there is no such paragraph");
        return engine.lines.demerits[paragraph];
    }

    public long demeritsByTrying(int paragraph) throws IndexOutOfBoundsException {
        engine.run(document, length);
        if (!engine.lines.has(paragraph)) throw new IndexOutOfBoundsException("there is no such paragraph");
        if (engine.lines.placeCounts.get(paragraph) > MOST_TRIED) return NONE;
        // what was weighed for the paragraph is not kept: the document is run once more for it
        engine.lines.tried = paragraph;
        engine.stale = true;
        engine.run(document, length);
        engine.lines.tried = -1;
        return engine.lines.least;
    }

    /** A row of numbers that grows, in few steps, up to its bound. */
    private static final class Row {
        private final int most;
        int[] a;
        int n;

        Row(int room, int most) {
            this.most = most;
            a = new int[room > 1 ? room : 1];
        }

        void add(int x) {
            if (n >= a.length) a = Arrays.copyOf(a, Math.max(a.length < most / 16 ? most / 16 : most, 2 * a.length));
            a[n] = x;
            n++;
        }

        int get(int i) {
            return i >= 0 && i < n ? a[i] : 0;
        }

        void set(int i, int x) {
            if (i >= 0 && i < n) a[i] = x;
        }

        /** Takes the last one away. */
        int take() {
            if (n < 1) return 0;
            n--;
            return a[n];
        }
    }

    /** What groups give back, and how the run goes. */
    private static final class State {
        final int[] value = new int[NAMES + MOST_NAMES];
        private final int[] level = new int[NAMES + MOST_NAMES];
        private final Row saved = new Row(96, MOST_KEPT);
        private final int[] begun = new int[MOST_GROUPS];
        int groups;
        int error;
        int steps;
        int firstMark;
        int lastMark;

        void reset() {
            for (int i = 0; i < NAMES; i++) {
                value[i] = i < ACTIVES ? OTHER : 0;
                level[i] = 0;
            }
            for (int i = 0; i < 26; i++) {
                value[65 + i] = LETTER;
                value[97 + i] = LETTER;
            }
            value[92] = ESCAPE;
            value[123] = OPEN;
            value[125] = CLOSE;
            value[35] = PARAMETER;
            value[32] = BLANK;
            value[10] = BLANK;
            value[126] = ACTIVE;
            value[37] = COMMENT;
            value[38] = TAB;
            for (int i = 0; i < PARAMETER_COUNT; i++) value[PARAMETERS + i] = FIRST_PARAMETERS[i];
            for (int i = 0; i < COMMAND_COUNT; i++) {
                value[NAMES + i] = IS_COMMAND << 16 | i;
                level[NAMES + i] = 0;
            }
            saved.n = 0;
            groups = 0;
            error = 0;
            steps = 0;
            firstMark = 0;
            lastMark = 0;
        }

        void fail(int code) {
            error = code;
            throw new IllegalStateException("the run ends by an error");
        }

        void step() {
            if (steps >= MOST_STEPS) fail(10);
            steps++;
        }

        /** A level of 0 tells that the value holds for all groups, so those that were saved are not given back. */
        void set(int variable, int x, boolean global) {
            if (variable < 0 || variable >= value.length) return;
            if (global) {
                level[variable] = 0;
            } else if (level[variable] != groups) {
                saved.add(variable);
                saved.add(value[variable]);
                saved.add(level[variable]);
                level[variable] = groups;
            }
            value[variable] = x;
        }

        void openGroup() {
            if (groups >= MOST_GROUPS) fail(10);
            begun[groups] = saved.n;
            groups++;
        }

        void closeGroup() {
            if (groups < 1) return;
            groups--;
            while (saved.n > begun[groups]) {
                int oldLevel = saved.take();
                int oldValue = saved.take();
                int variable = saved.take();
                if (level[variable] == 0) continue;
                value[variable] = oldValue;
                level[variable] = oldLevel;
            }
        }
    }

    /** NAMEs, lists of tokens, macros, and the tokens that come. */
    private static final class Tokens {
        private final State state;
        /** The signs of all NAMEs, one behind the other. */
        private int[] text = new int[4096];
        private final int[] nameAt = new int[MOST_NAMES + 1];
        private final int[] chain = new int[MOST_NAMES];
        private final int[] head = new int[256];
        private final int[] firstHead = new int[256];
        private int names;
        /** The tokens of lists that are kept; behind them those of a list, or the signs of a NAME, that comes. */
        final Row pool = new Row(2048, MOST_COME);
        private final Row lists = new Row(64, MOST_KEPT);
        private final Row macros = new Row(48, MOST_KEPT);
        final Row pending = new Row(2048, MOST_COME);
        private int[] document = new int[1];
        private int length;
        private int at;
        /** Whether the token that was read last was held by \noexpand. */
        boolean held;
        /** How many parameters the PARAMETERS that were read last have. */
        int slots;

        Tokens(State state) {
            this.state = state;
            Arrays.fill(head, -1);
            addNames(EXPANDABLE_NAMES);
            addNames(TYPESETTING_NAMES);
            addNames(BOX_NAMES);
            addNames(ASSIGNING_NAMES);
            addNames(PARAMETER_NAMES);
            System.arraycopy(head, 0, firstHead, 0, 256);
        }

        private void addNames(String all) {
            int[] signs = new int[16];
            int n = 0;
            for (int i = 0; i < all.length(); i++) {
                char sign = all.charAt(i);
                if (sign == ' ') {
                    intern(signs, 0, n);
                    n = 0;
                } else if (n < signs.length) {
                    signs[n] = sign;
                    n++;
                }
            }
        }

        void reset(int[] signs, int count) {
            System.arraycopy(firstHead, 0, head, 0, 256);
            names = COMMAND_COUNT;
            pool.n = 0;
            lists.n = 0;
            lists.add(0);
            lists.add(0);
            macros.n = 0;
            pending.n = 0;
            document = signs;
            length = count < signs.length ? count : signs.length;
            at = 0;
            held = false;
        }

        /** Drops all that is to be read. */
        void drop() {
            pending.n = 0;
            at = length;
        }

        /** The number of the NAME that has these signs. */
        int intern(int[] from, int start, int end) {
            if (start < 0 || end < start || end > from.length) return C_RELAX;
            int hash = 0;
            for (int i = start; i < end; i++) hash = hash * 31 + from[i] & 255;
            int id = head[hash];
            for (int n = 0; n < names && id >= 0; n++) {
                int i = start;
                int shift = nameAt[id] - start;
                if (nameAt[id + 1] - nameAt[id] == end - start) {
                    while (i < end && text[shift + i] == from[i]) i++;
                    if (i == end) return id;
                }
                id = chain[id];
            }
            if (names >= MOST_NAMES) return C_RELAX;
            int written = nameAt[names];
            int size = end - start;
            if (written + size > text.length) text = Arrays.copyOf(text, Math.max(MOST_COME, 2 * (written + size)));
            System.arraycopy(from, start, text, written, size);
            id = names;
            names++;
            nameAt[names] = written + size;
            chain[id] = head[hash];
            head[hash] = id;
            state.value[NAMES + id] = 0;
            state.level[NAMES + id] = 0;
            return id;
        }

        /** The code of a NAME of one sign, otherwise -1. */
        int onlySign(int t) {
            int id = t & 0xFFFF;
            if ((t & NAME) == 0 || id >= names || nameAt[id + 1] - nameAt[id] != 1) return -1;
            return text[nameAt[id]];
        }

        /** The next token, END behind the last one. */
        int next() {
            if (pending.n > 0) {
                int t = pending.take();
                held = (t & HELD) != 0;
                return t & ~HELD;
            }
            held = false;
            while (at < length) {
                int code = document[at] & 127;
                at++;
                int kind = state.value[code];
                if (kind == ESCAPE) {
                    int from = at;
                    at = behind(from, LETTER);
                    boolean letters = at > from;
                    if (!letters && at < length) at++;
                    int id = intern(document, from, at);
                    if (letters) at = behind(at, BLANK);
                    return NAME | id;
                }
                if (kind == BLANK) {
                    int from = at - 1;
                    at = behind(at, BLANK);
                    return lineEnds(from, at) > 1 ? NAME | C_PAR : SPACE;
                }
                if (kind == COMMENT) at = nextLine(at);
                else if (kind != IGNORED) return kind << 8 | code;
            }
            return END;
        }

        /** Where the row of signs of a class that begins at i ends. */
        private int behind(int i, int kind) {
            while (i < length && state.value[document[i] & 127] == kind) i++;
            return i;
        }

        private int lineEnds(int from, int to) {
            int n = 0;
            for (int i = from; i < to; i++) if (document[i] == 10) n++;
            return n;
        }

        private int nextLine(int i) {
            while (i < length && document[i] != 10) i++;
            return i < length ? i + 1 : i;
        }

        /** The next token for one that keeps it: it has to come, and must not be the } of \output or of a cell. */
        int take() {
            int t = next();
            if (t == END) state.fail(2);
            if (t == FENCE) state.fail(9);
            return t;
        }

        /** The next token that is no BLANK, likewise. */
        int takeSolid() {
            int t = take();
            for (int i = 0; i < FAR && t == SPACE; i++) t = take();
            return t;
        }

        /** The class of a character, -1 for others. */
        int kind(int t) {
            return t < 0 || (t & NAME) != 0 ? -1 : t >> 8 & 15;
        }

        int meaning(int t) {
            if (t < 0) return 0;
            if ((t & NAME) != 0) {
                int id = t & 0xFFFF;
                return id < MOST_NAMES ? state.value[NAMES + id] : 0;
            }
            if ((t >> 8 & 15) == ACTIVE) return state.value[ACTIVES + (t & 127)];
            return IS_CHARACTER << 16 | t & 0xFFF;
        }

        /** The command that a token means, -1 without one. */
        int command(int t) {
            int m = meaning(t);
            return m >> 16 == IS_COMMAND ? m & 0xFFFF : -1;
        }

        /** The variable that holds the meaning of a NAME or ACTIVE character, -1 for others. */
        int variable(int t) {
            if (t >= 0 && (t & NAME) != 0) return NAMES + (t & 0xFFFF);
            return kind(t) == ACTIVE ? ACTIVES + (t & 127) : -1;
        }

        boolean expandable(int m) {
            return m >> 16 == IS_MACRO || m >> 16 == IS_COMMAND && (m & 0xFFFF) <= C_FI;
        }

        // ---- lists of tokens

        int listAt(int list) {
            return lists.get(2 * list);
        }

        int listSize(int list) {
            return lists.get(2 * list + 1);
        }

        /** Makes a list of what stands in the pool from there on. */
        int keep(int first) {
            lists.add(first);
            lists.add(pool.n - first);
            return lists.n / 2 - 1;
        }

        void addLimited(int t, int first) {
            if (pool.n - first >= MOST_TOKENS) state.fail(10);
            pool.add(t);
        }

        /** What comes, not expanded, up to the CLOSE of an OPEN that was read. */
        int readList() {
            int first = pool.n;
            int depth = 0;
            for (int i = 0; i < FAR; i++) {
                int t = take();
                int kind = kind(t);
                if (kind == OPEN) depth++;
                if (kind == CLOSE) depth--;
                if (depth < 0) return keep(first);
                addLimited(t, first);
            }
            return 0;
        }

        /** Puts a list ahead of all that is to be read. */
        void pushList(int list) {
            int from = listAt(list);
            pushRange(from, from + listSize(list));
        }

        void pushRange(int from, int to) {
            for (int i = to - 1; i >= from; i--) pending.add(pool.get(i));
        }

        private boolean sameList(int a, int b) {
            int size = lists.get(2 * a + 1);
            if (size != lists.get(2 * b + 1)) return false;
            for (int i = 0; i < size; i++) {
                if (pool.get(lists.get(2 * a) + i) != pool.get(lists.get(2 * b) + i)) return false;
            }
            return true;
        }

        // ---- macros

        /** PARAMETERS up to the first OPEN, with a SLOT for each parameter. */
        int readPattern() {
            int first = pool.n;
            slots = 0;
            for (int i = 0; i < FAR; i++) {
                int t = take();
                int kind = kind(t);
                if (kind == OPEN) return keep(first);
                if (kind == CLOSE) state.fail(6);
                if (kind == PARAMETER) {
                    slots++;
                    if (slots > 9 || take() != DIGITS + slots) state.fail(6);
                    t = SLOT | slots;
                }
                pool.add(t);
            }
            return 0;
        }

        /** Makes a BODY of the list that was kept last: its parameters become SLOTs. */
        void shapeBody(int list) {
            int from = listAt(list);
            int to = from;
            int end = from + listSize(list);
            for (int i = from; i < end; i++) {
                int t = pool.get(i);
                if (kind(t) == PARAMETER) {
                    i++;
                    t = i < end ? pool.get(i) : END;
                    if (t > DIGITS && t <= DIGITS + slots) t = SLOT | t - DIGITS;
                    else if (kind(t) != PARAMETER) state.fail(6);
                }
                pool.set(to, t);
                to++;
            }
            pool.n = to;
            lists.set(2 * list + 1, to - from);
        }

        int addMacro(int pattern, int body) {
            macros.add(slots);
            macros.add(pattern);
            macros.add(body);
            return IS_MACRO << 16 | macros.n / 3 - 1;
        }

        int pattern(int macro) {
            return macros.get(3 * (macro & 0xFFFF) + 1);
        }

        int body(int macro) {
            return macros.get(3 * (macro & 0xFFFF) + 2);
        }

        boolean sameMeaning(int a, int b) {
            if (a == b) return true;
            if (a >> 16 != IS_MACRO || b >> 16 != IS_MACRO) return false;
            return sameList(pattern(a), pattern(b)) && sameList(body(a), body(b));
        }
    }

    /** Expansion, and what is read by it: numbers, glue, keywords. */
    private static final class Expander {
        private final State state;
        private final Tokens tokens;
        private final Items items;
        /** How many NUMBERs and expansions are begun and not ended. */
        private int within;
        /** Whether the signs of a GLUE are read: they are of its NUMBER, or if \skip comes behind them of none. */
        private boolean undecided;
        /** The steps ahead of what is within too many, if that GLUE is a NUMBER; -1 if nothing is. */
        private int stepsAtMost;
        /** For each conditional that is begun, 1 behind its \else. */
        final Row conditions = new Row(32, MOST_KEPT);
        private final Row got = new Row(256, MOST_KEPT);
        private final int[] gotFrom = new int[10];
        private final int[] gotTo = new int[10];
        /** For each beginning of a TAIL that came: the longest shorter one with which it ends. */
        private final Row falls = new Row(16, MOST_COME / 2);
        private final int[] word = new int[8];
        /** The GLUE that was read last: its natural part, its stretch and the order of that, its shrink likewise. */
        final int[] measure = new int[5];

        Expander(State state, Tokens tokens, Items items) {
            this.state = state;
            this.tokens = tokens;
            this.items = items;
        }

        void reset() {
            within = 0;
            undecided = false;
            conditions.n = 0;
        }

        /** A GLUE of which it is open whether it is a NUMBER is counted, but fails only when that is known. */
        private void enter() {
            if (within >= MOST_WITHIN) {
                if (!undecided || within > MOST_WITHIN) state.fail(10);
                if (stepsAtMost < 0) stepsAtMost = state.steps;
            }
            within++;
        }

        /** The next token that is not EXPANDABLE. */
        private int next() {
            for (int i = 0; i < FAR; i++) {
                int t = tokens.next();
                if (t == END || tokens.held) return t;
                int m = tokens.meaning(t);
                if (!tokens.expandable(m)) return t;
                expand(m);
            }
            return END;
        }

        /** The next one that is no BLANK; it has to come. */
        private int needed() {
            for (int i = 0; i < FAR; i++) {
                int t = next();
                if (t == END) state.fail(2);
                if (t != SPACE) return t;
            }
            return END;
        }

        private void back(int t) {
            if (t != END) tokens.pending.add(t);
        }

        private void expand(int m) {
            enter();
            state.step();
            if (m >> 16 == IS_MACRO) {
                int pattern = tokens.pattern(m);
                int slot = passAhead(pattern);
                for (int k = 1; k <= 9 && slot >= 0; k++) {
                    int end = tailEnd(pattern, slot);
                    gotFrom[k] = got.n;
                    if (end == slot + 1) readUndelimited();
                    else readUpTo(tokens.listAt(pattern) + slot + 1, end - slot - 1);
                    gotTo[k] = got.n;
                    if (end > slot + 1) trim(k);
                    slot = end < tokens.listSize(pattern) ? end : -1;
                }
                putBody(tokens.body(m));
            } else {
                int p = m & 0xFFFF;
                switch (p) {
                    case C_EXPANDAFTER: expandSecond(); break;
                    case C_NOEXPAND: hold(); break;
                    case C_CSNAME: makeName(); break;
                    case C_THE: tokens.pushList(tell()); break;
                    case C_FIRSTMARK: tokens.pushList(state.firstMark); break;
                    case C_BOTMARK: tokens.pushList(state.lastMark); break;
                    case C_ELSE:
                        endCondition(true);
                        passOver(false);
                        break;
                    case C_FI: endCondition(false); break;
                    default: condition(p);
                }
            }
            within--;
        }

        // ---- macros

        /** Passes over what stands ahead of the first parameter; where that is in the pattern, -1 without one. */
        private int passAhead(int pattern) {
            int from = tokens.listAt(pattern);
            int size = tokens.listSize(pattern);
            got.n = 0;
            for (int i = 0; i < size; i++) {
                int due = tokens.pool.get(from + i);
                if ((due & SLOT) != 0) return i;
                int t = tokens.next();
                if (t == END) state.fail(2);
                if (t != due) state.fail(3);
            }
            return -1;
        }

        /** Where the TAIL of the parameter at slot ends in the pattern. */
        private int tailEnd(int pattern, int slot) {
            int from = tokens.listAt(pattern);
            int size = tokens.listSize(pattern);
            int end = slot + 1;
            while (end < size && (tokens.pool.get(from + end) & SLOT) == 0) end++;
            return end;
        }

        /** Takes an OPEN and its CLOSE off what parameter k got, if they are its first and its last token. */
        private void trim(int k) {
            int depth = 0;
            for (int i = gotFrom[k]; i < gotTo[k]; i++) {
                int kind = tokens.kind(got.get(i));
                if (kind == OPEN) depth++;
                if (kind == CLOSE) depth--;
                if (depth > 0) continue;
                if (i == gotFrom[k] || i < gotTo[k] - 1) return;
                gotFrom[k]++;
                gotTo[k]--;
                return;
            }
        }

        private void readUndelimited() {
            int first = got.n;
            int depth = 0;
            for (int i = 0; i < FAR; i++) {
                int t = tokens.next();
                if (t == END) state.fail(2);
                if (t == SPACE && depth == 0) continue;
                int kind = t < 0 || (t & NAME) != 0 ? -1 : t >> 8 & 15;
                if (kind == CLOSE) {
                    if (depth == 0) state.fail(8);
                    depth--;
                    if (depth == 0) return;
                }
                if (kind == OPEN) depth++;
                if (kind == OPEN && depth == 1) continue;
                addGot(t, first);
                if (depth == 0) return;
            }
        }

        /** Reads up to a TAIL, whose tokens are in the pool; what has come of it is not got as long as it may be it. */
        private void readUpTo(int tail, int size) {
            int first = got.n;
            int depth = 0;
            int matched = 0;
            falls.n = 0;
            for (int i = 0; i < FAR; i++) {
                int t = tokens.next();
                if (t == END) state.fail(2);
                int kind = t < 0 || (t & NAME) != 0 ? -1 : t >> 8 & 15;
                if (kind == CLOSE && depth == 0) state.fail(8);
                if (kind == CLOSE) depth--;
                if (kind == OPEN) depth++;
                while (matched > 0 && t != tokens.pool.get(tail + matched)) {
                    int shorter = Math.min(falls.get(matched - 1), matched - 1);
                    for (int k = 0; k < matched - shorter; k++) addGot(tokens.pool.get(tail + k), first);
                    matched = shorter;
                }
                if (depth == 0 && t == tokens.pool.get(tail + matched)) {
                    matched++;
                    if (matched == size) return;
                    if (falls.n < matched) falls.add(fallBack(tail, matched));
                } else {
                    addGot(t, first);
                }
                // within an OPEN no TAIL begins, and its CLOSE has to come yet
                if (got.n - first + depth > MOST_TOKENS) state.fail(10);
            }
        }

        private void addGot(int t, int first) {
            if (got.n - first >= MOST_TOKENS) state.fail(10);
            got.add(t);
        }

        /** The longest beginning of a TAIL with which a longer one, of so many tokens, ends. */
        private int fallBack(int tail, int many) {
            if (many < 2) return 0;
            int last = tokens.pool.get(tail + many - 1);
            int n = falls.get(many - 2);
            while (n > 0 && tokens.pool.get(tail + n) != last) n = Math.min(falls.get(n - 1), n - 1);
            return tokens.pool.get(tail + n) == last ? n + 1 : 0;
        }

        private void putBody(int body) {
            int from = tokens.listAt(body);
            int size = tokens.listSize(body);
            int whole = 0;
            for (int i = 0; i < size; i++) {
                int t = tokens.pool.get(from + i);
                int k = t & 15;
                whole += (t & SLOT) == 0 ? 1 : k < 10 ? gotTo[k] - gotFrom[k] : 0;
                if (whole > MOST_TOKENS) state.fail(10);
            }
            for (int i = size - 1; i >= 0; i--) {
                int t = tokens.pool.get(from + i);
                int k = t & 15;
                if ((t & SLOT) == 0) tokens.pending.add(t);
                else if (k < 10) for (int j = gotTo[k] - 1; j >= gotFrom[k]; j--) tokens.pending.add(got.get(j));
            }
        }

        // ---- other expansions

        private void expandSecond() {
            int first = tokens.next();
            if (first == END) state.fail(2);
            int second = tokens.next();
            if (second == END) state.fail(2);
            int m = tokens.meaning(second);
            if (!tokens.held && tokens.expandable(m)) expand(m);
            else tokens.pending.add(second);
            tokens.pending.add(first);
        }

        private void hold() {
            int t = tokens.next();
            if (t == END) state.fail(2);
            tokens.pending.add(t == FENCE ? t : t | HELD);
        }

        private void makeName() {
            int first = tokens.pool.n;
            for (int i = 0; i < FAR; i++) {
                int t = next();
                if (t == END) state.fail(2);
                if (t == FENCE) state.fail(9);
                if (tokens.command(t) == C_ENDCSNAME) break;
                if ((t & NAME) != 0) state.fail(6);
                tokens.pool.add(t & 127);
            }
            int id = tokens.intern(tokens.pool.a, first, tokens.pool.n);
            tokens.pool.n = first;
            if (state.value[NAMES + id] == 0) state.set(NAMES + id, IS_COMMAND << 16 | C_RELAX, false);
            tokens.pending.add(NAME | id);
        }

        /** Reads what \the tells: a list of tokens, or else the empty one, and the signs stand ahead. */
        private int tell() {
            int t = next();
            if (t == END) state.fail(2);
            int p = tokens.command(t);
            if (p == C_TOKS) return state.value[LISTS + index()];
            if (p == C_OUTPUT) return state.value[OUTPUT];
            if (p == C_SKIP) {
                int glue = state.value[SKIPS + index()];
                tellPart(items.gluePart(glue, 3), items.gluePart(glue, 4), " minus ");
                tellPart(items.gluePart(glue, 1), items.gluePart(glue, 2), " plus ");
                tellNumber(items.gluePart(glue, 0));
            } else if (p == C_COUNT || p == C_LEN || p == C_CLASS || p >= C_HSIZE) {
                tellNumber(value(t));
            } else {
                state.fail(4);
            }
            return 0;
        }

        private void tellPart(int x, int order, String ahead) {
            if (x == 0) return;
            for (int i = 0; i < order; i++) tokens.pending.add(OTHERS | 'f');
            tellNumber(x);
            for (int i = ahead.length() - 1; i >= 0; i--) {
                char sign = ahead.charAt(i);
                tokens.pending.add(sign == ' ' ? SPACE : OTHERS | sign);
            }
        }

        /** The last digit is put first, because what is put last is read first. */
        private void tellNumber(int x) {
            int left = x < 0 ? -x : x;
            for (int i = 0; i < 12 && (left > 0 || i == 0); i++) {
                tokens.pending.add(DIGITS + left % 10);
                left /= 10;
            }
            if (x < 0) tokens.pending.add(MINUS);
        }

        // ---- conditionals

        private void condition(int p) {
            boolean holds;
            if (p == C_IFNUM) {
                holds = compares();
            } else if (p == C_IFX) {
                int a = tokens.take();
                int b = tokens.take();
                holds = tokens.sameMeaning(tokens.meaning(a), tokens.meaning(b));
            } else {
                holds = state.value[BOXES + index()] == 0;
            }
            if (holds) conditions.add(0);
            else if (passOver(true)) conditions.add(1);
        }

        private boolean compares() {
            int a = amount(false);
            int t = needed();
            int code = (t & NAME) != 0 ? 0 : t & 127;
            if (code < '<' || code > '>') state.fail(4);
            int b = amount(false);
            return code == '<' ? a < b : code == '>' ? a > b : a == b;
        }

        private void endCondition(boolean byElse) {
            if (conditions.n == 0) state.fail(11);
            if (conditions.take() != 0 && byElse) state.fail(11);
        }

        /** Passes over all up to the \fi, or the \else if that may end it; whether this did. */
        private boolean passOver(boolean upToElse) {
            int inner = 0;
            for (int i = 0; i < FAR; i++) {
                int t = tokens.next();
                if (t == END || t == FENCE) state.fail(t == END ? 2 : 9);
                int p = tokens.command(t);
                if (p == C_IFNUM || p == C_IFX || p == C_IFVOID) inner++;
                if (p == C_ELSE && inner == 0 && upToElse) return true;
                if (p == C_FI && inner == 0) return false;
                if (p == C_FI) inner--;
            }
            return false;
        }

        // ---- numbers and glue

        /** A GLUE, whose parts are then told by measure, or a NUMBER. */
        private int amount(boolean glue) {
            enter();
            if (glue) {
                undecided = true;
                stepsAtMost = -1;
            }
            int sign = 1;
            int t = needed();
            for (int i = 0; i < FAR && (t == PLUS || t == MINUS); i++) {
                if (t == MINUS) sign = -sign;
                t = needed();
            }
            if (glue && decide(t)) {
                within--;
                int skip = state.value[SKIPS + index()];
                for (int k = 0; k < 5; k++) measure[k] = items.gluePart(skip, k) * (k % 2 == 0 && k > 0 ? 1 : sign);
                return measure[0];
            }
            int natural = sign * value(t);
            within--;
            if (glue) {
                Arrays.fill(measure, 0);
                measure[0] = natural;
                readPart("plus", 1);
                readPart("minus", 3);
            }
            return natural;
        }

        /** Whether a GLUE is one of \skip, by the token behind its signs; if not, these are of a NUMBER. */
        private boolean decide(int t) {
            undecided = false;
            if (tokens.command(t) == C_SKIP) return true;
            if (stepsAtMost >= 0) {
                state.steps = stepsAtMost;
                state.fail(10);
            }
            return false;
        }

        private void readPart(String name, int k) {
            if (!keyword(name)) return;
            measure[k] = amount(false);
            int t = next();
            for (int i = 0; i < 3 && isKey(t, 'f'); i++) {
                measure[k + 1]++;
                t = next();
            }
            if (measure[k + 1] == 0 || t != SPACE) back(t);
        }

        private boolean isKey(int t, char sign) {
            return t >= 0 && (t & NAME) == 0 && (t >> 8 & 15) != ACTIVE && (t & 127) == sign;
        }

        /** Whether a keyword comes; what was read of one that does not come stays to be read. */
        private boolean keyword(String name) {
            int blanks = 0;
            int t = next();
            while (t == SPACE && blanks < FAR) {
                blanks++;
                t = next();
            }
            int n = 0;
            while (n < name.length() && n < word.length && isKey(t, name.charAt(n))) {
                word[n] = t;
                n++;
                if (n == name.length()) return true;
                t = next();
            }
            back(t);
            for (int i = n - 1; i >= 0; i--) back(word[i]);
            for (int i = 0; i < blanks; i++) back(SPACE);
            return false;
        }

        /** The number that begins with this token. */
        private int value(int t) {
            if (t >= DIGITS && t <= DIGITS + 9) return digits(t);
            if (t == QUOTE) return code();
            int p = tokens.command(t);
            if (p == C_COUNT) return state.value[COUNTS + index()];
            if (p == C_LEN) return state.value[LENS + index()];
            if (p == C_CLASS) return state.value[codeIndex()];
            if (p == C_WD || p == C_HT || p == C_DP) return items.part(state.value[BOXES + index()], WIDTH + p - C_WD);
            if (p < C_HSIZE || p >= COMMAND_COUNT) state.fail(4);
            return state.value[PARAMETERS + p - C_HSIZE];
        }

        private int digits(int t) {
            int x = 0;
            for (int i = 0; i < FAR && t >= DIGITS && t <= DIGITS + 9; i++) {
                x = 10 * x + t - DIGITS;
                if (x > LARGEST) state.fail(5);
                t = next();
            }
            if (t != SPACE) back(t);
            return x;
        }

        private int code() {
            int t = tokens.take();
            int code = (t & NAME) == 0 ? t & 127 : tokens.onlySign(t);
            if (code < 0) state.fail(4);
            t = next();
            if (t != SPACE) back(t);
            return code;
        }

        /** The NUMBER of a register or box. */
        private int index() {
            int i = amount(false);
            if (i < 0 || i > 9) state.fail(6);
            return i;
        }

        /** The NUMBER of a code. */
        private int codeIndex() {
            int i = amount(false);
            if (i < 1 || i > 127) state.fail(6);
            return i;
        }

        // ---- what assignments and boxes read

        /** Passes over BLANKs, perhaps =, BLANKs. */
        void equalsSign() {
            int t = next();
            for (int i = 0; i < FAR && t == SPACE; i++) t = next();
            if (t != END && (t & NAME) == 0 && (t & 127) == '=') {
                t = next();
                for (int i = 0; i < FAR && t == SPACE; i++) t = next();
            }
            back(t);
        }

        /** Passes over the { that has to come. */
        void brace() {
            int m = tokens.meaning(needed());
            if (m >> 16 != IS_CHARACTER || (m >> 8 & 15) != OPEN) state.fail(6);
        }

        /** What comes up to the CLOSE of an OPEN that was read, expanded. */
        int expandedList() {
            int first = tokens.pool.n;
            int depth = 0;
            for (int i = 0; i < FAR; i++) {
                int t = tokens.take();
                int m = tokens.meaning(t);
                if (!tokens.held && tokens.expandable(m)) {
                    if (m != (IS_COMMAND << 16 | C_THE)) {
                        expand(m);
                        continue;
                    }
                    enter();
                    state.step();
                    int list = tell();
                    within--;
                    addList(list, first);
                    continue;
                }
                int kind = tokens.kind(t);
                if (kind == OPEN) depth++;
                if (kind == CLOSE) depth--;
                if (depth < 0) return tokens.keep(first);
                tokens.addLimited(t, first);
            }
            return 0;
        }

        /** The tokens that \the tells in a list are not expanded any more. */
        private void addList(int list, int first) {
            int from = tokens.listAt(list);
            int size = tokens.listSize(list);
            for (int i = 0; i < size; i++) tokens.addLimited(tokens.pool.get(from + i), first);
        }
    }

    /** All items, boxes among them. They never change, so boxes and registers share them. */
    private static final class Items {
        /** The items that are made ahead of all runs; the characters have the numbers of their codes. */
        static final int BLANK_GLUE = 128, NO_BREAK = 129, FILL_GLUE = 130, LINE_PENALTY = 131, A_HYPHEN = 132,
            MADE = 133;
        private static final int BLANK_MEASURE = 1, FILL_MEASURE = 2;
        private static final int[] BLANK_SIZES = {6, 3, 0, 2, 0}, FILL_SIZES = {0, 1, 1, 0, 0};

        private final State state;
        private int[] part = new int[512 * PARTS];
        private int count;
        /** The items of finished lists. */
        final Row list = new Row(512, MOST_LISTED);
        private final Row glues = new Row(80, 10 * MOST_KEPT);
        private final long[] sums = new long[9];

        Items(State state) {
            this.state = state;
            for (int code = 0; code < 128; code++) {
                int at = code * PARTS;
                part[at + WIDTH] = code == 0 ? 0 : 4 + code % 7;
                part[at + HEIGHT] = code == 0 ? 0 : 7;
                part[at + DEPTH] = code == 0 || code % 5 != 0 ? 0 : 2;
                part[at + NUMBER] = code;
                part[at + WHOLE] = code == 0 ? 0 : 1;
            }
            count = 128;
            makeFirst(GLUE, BLANK_MEASURE);
            makeFirst(PENALTY, 10000);
            makeFirst(GLUE, FILL_MEASURE);
            makeFirst(PENALTY, 50);
            makeFirst(HYPHEN, 0);
        }

        private void makeFirst(int kind, int number) {
            part[count * PARTS + KIND] = kind;
            part[count * PARTS + NUMBER] = number;
            part[count * PARTS + WHOLE] = 1;
            count++;
        }

        void reset() {
            count = MADE;
            list.n = 0;
            glues.n = 0;
            rigid(0);
            measure(BLANK_SIZES);
            measure(FILL_SIZES);
        }

        // ---- parts

        int part(int id, int which) {
            return id > 0 && id < count && which >= 0 && which < PARTS ? part[id * PARTS + which] : 0;
        }

        int kind(int id) {
            return id > 0 && id < count ? part[id * PARTS] : CHARACTER;
        }

        boolean isBox(int id) {
            return id > 0 && id < count && (part[id * PARTS] == HBOX || part[id * PARTS] == VBOX);
        }

        /** Whether it is a box or rule. */
        boolean isSolid(int id) {
            return id > 0 && id < count && part[id * PARTS] >= HBOX && part[id * PARTS] <= RULE;
        }

        /** How many items a box has in all; 0 for no box. */
        int whole(int box) {
            return box > 0 && box < count ? part[box * PARTS + WHOLE] : 0;
        }

        // ---- glue

        /** Keeps a natural part, a stretch and its order, a shrink and its order. */
        int measure(int[] m) {
            for (int k = 0; k < 5; k++) glues.add(k < m.length ? m[k] : 0);
            return glues.n / 5 - 1;
        }

        /** Keeps what has a natural part alone. */
        int rigid(int natural) {
            for (int k = 0; k < 5; k++) glues.add(k == 0 ? natural : 0);
            return glues.n / 5 - 1;
        }

        /** A glue with another natural part. */
        int changed(int glue, int natural) {
            int from = 5 * glue;
            for (int k = 0; k < 5; k++) glues.add(k == 0 ? natural : glues.get(from + k));
            return glues.n / 5 - 1;
        }

        int gluePart(int glue, int which) {
            return glues.get(5 * glue + which);
        }

        // ---- making items

        int make(int kind, int number) {
            int room = part.length;
            if ((count + 1) * PARTS > room) {
                part = Arrays.copyOf(part, Math.max(room < MOST_MADE ? MOST_MADE : MOST_MADE * PARTS, 2 * room));
            }
            int at = count * PARTS;
            Arrays.fill(part, at, at + PARTS, 0);
            part[at + KIND] = kind;
            part[at + NUMBER] = number;
            part[at + WHOLE] = 1;
            count++;
            return count - 1;
        }

        int glue(int measure, int box) {
            int id = make(GLUE, measure);
            part[id * PARTS + FIRST] = box;
            return id;
        }

        int solid(int kind, int width, int height, int depth) {
            int id = make(kind, 0);
            part[id * PARTS + WIDTH] = width;
            part[id * PARTS + HEIGHT] = height;
            part[id * PARTS + DEPTH] = depth;
            return id;
        }

        /** The size of the glue between two boxes. */
        int room(int above, int below) {
            return Math.max(0, state.value[BASE] - part(above, DEPTH) - part(below, HEIGHT));
        }

        /** A box that is made when it comes to the page, as wide as told, if the spec is TO. */
        int promise(int first, int size, int spec, int told) {
            int id = make(HBOX, told);
            part[id * PARTS + FIRST] = first;
            part[id * PARTS + SIZE] = size;
            part[id * PARTS + ORDER] = spec;
            return id;
        }

        /** Makes a box that was promised. */
        int redeem(int id) {
            return pack(HBOX, part(id, FIRST), part(id, SIZE), part(id, ORDER), part(id, NUMBER));
        }

        int insertion(int first, int size) {
            int id = make(INSERTION, 0);
            part[id * PARTS + FIRST] = first;
            part[id * PARTS + SIZE] = size;
            return id;
        }

        /** An insertion without its first items; one that was left of another one is in no box, and is changed. */
        int rest(int id, int without) {
            if (without == 0) return id;
            int first = part(id, FIRST) + without;
            int size = part(id, SIZE) - without;
            int rest = part(id, IS_REST) != 0 ? id : make(INSERTION, 0);
            part[rest * PARTS + IS_REST] = 1;
            part[rest * PARTS + FIRST] = first;
            part[rest * PARTS + SIZE] = size;
            return rest;
        }

        int raised(int box, int by) {
            int height = part(box, HEIGHT) + by;
            int depth = part(box, DEPTH) - by;
            if (height < -LARGEST || height > LARGEST || depth < -LARGEST || depth > LARGEST) state.fail(5);
            int id = make(HBOX, 0);
            System.arraycopy(part, box * PARTS, part, id * PARTS, PARTS);
            part[id * PARTS + HEIGHT] = height;
            part[id * PARTS + DEPTH] = depth;
            return id;
        }

        // ---- sums: the natural size, then the stretch of each order, then the shrink of each order

        void addAcross(long[] to, int id) {
            if (id <= 0 || id >= count) return;
            int at = id * PARTS;
            int kind = part[at];
            if (kind <= RULE) to[0] += part[at + WIDTH];
            else addLight(to, kind, part[at + NUMBER]);
        }

        void addDown(long[] to, int id) {
            if (id <= 0 || id >= count) return;
            int at = id * PARTS;
            int kind = part[at];
            if (kind <= RULE) to[0] += (long) part[at + HEIGHT] + part[at + DEPTH];
            else addLight(to, kind, part[at + NUMBER]);
        }

        private void addLight(long[] to, int kind, int number) {
            if (kind == KERN) to[0] += number;
            int at = 5 * number;
            if (kind != GLUE || at < 0 || at + 5 > glues.n) return;
            to[0] += glues.a[at];
            to[1 + (glues.a[at + 2] & 3)] += glues.a[at + 1];
            to[5 + (glues.a[at + 4] & 3)] += glues.a[at + 3];
        }

        /** The order of glue that is used, -1 if there is no such glue. */
        int order(long[] of, long excess) {
            if (excess == 0) return -1;
            int from = excess > 0 ? 1 : 5;
            for (int order = 3; order >= 0; order--) {
                if (of[from + order] != 0) return of[from + order] > 0 ? order : -1;
            }
            return -1;
        }

        /** The badness by the order of glue that is used. */
        int badness(long[] of, long excess, int order) {
            if (excess == 0 || order > 0) return 0;
            long size = excess > 0 ? excess : -excess;
            long total = order < 0 ? 0 : of[excess > 0 ? 1 : 5];
            if (excess < 0 && size > total) return LARGEST;
            if (total <= 0) return 10000;
            long ratio = 1000 * size / total;
            if (ratio > 5000) ratio = 5000;
            long bad = ratio * ratio * ratio / 10000000;
            return bad > 10000 ? 10000 : (int) bad;
        }

        /** How high and deep an item of a vertical list is. */
        long down(int id) {
            int kind = kind(id);
            if (kind == KERN) return part(id, NUMBER);
            if (kind == GLUE) return gluePart(part(id, NUMBER), 0);
            return kind <= RULE ? (long) part(id, HEIGHT) + part(id, DEPTH) : 0;
        }

        /** How high and deep so many items of a list are together. */
        long extent(int first, int size) {
            long sum = 0;
            for (int i = 0; i < size; i++) sum += down(list.get(first + i));
            return sum;
        }

        // ---- boxes

        /** A box of so many items of the list, as they stand from first on. */
        int pack(int kind, int first, int size, int spec, long told) {
            Arrays.fill(sums, 0L);
            int width = 0;
            int height = 0;
            int depth = 0;
            int whole = 1;
            for (int i = 0; i < size; i++) {
                int id = list.get(first + i);
                whole += part(id, WHOLE);
                if (whole > MOST_ITEMS) state.fail(10);
                if (kind == HBOX) addAcross(sums, id);
                else addDown(sums, id);
                width = Math.max(width, part(id, WIDTH));
                height = Math.max(height, part(id, HEIGHT));
                int own = Math.max(0, part(id, DEPTH));
                depth = kind == HBOX ? Math.max(depth, own) : own;
            }
            long natural = kind == HBOX ? sums[0] : sums[0] - depth;
            long wanted = spec == TO ? told : spec == SPREAD ? natural + told : natural;
            if (natural < -LARGEST || natural > LARGEST || wanted < -LARGEST || wanted > LARGEST) state.fail(5);
            int id = solid(kind, kind == HBOX ? (int) wanted : width, kind == HBOX ? height : (int) wanted, depth);
            part[id * PARTS + FIRST] = first;
            part[id * PARTS + SIZE] = size;
            part[id * PARTS + WHOLE] = whole;
            long excess = wanted - natural;
            int order = order(sums, excess);
            long total = order < 0 ? 0 : sums[(excess > 0 ? 1 : 5) + order];
            part[id * PARTS + NUMBER] = badness(sums, excess, order);
            part[id * PARTS + ORDER] = order;
            part[id * PARTS + TOTAL] = (int) total;
            part[id * PARTS + EXCESS] = (int) (excess < 0 && order == 0 ? Math.max(excess, -total) : excess);
            return id;
        }

        /** The size of the glue at a place of a box, as it was set. */
        private long glueSize(int box, int place) {
            int glue = part(itemAt(box, place), NUMBER);
            int order = part(box, ORDER);
            long total = part(box, TOTAL);
            long excess = part(box, EXCESS);
            int which = excess > 0 ? 1 : 3;
            long natural = gluePart(glue, 0);
            if (order < 0 || total <= 0 || gluePart(glue, which + 1) != order) return natural;
            long ahead = 0;
            for (int i = 0; i < place; i++) {
                int id = itemAt(box, i);
                int other = part(id, NUMBER);
                if (kind(id) == GLUE && gluePart(other, which + 1) == order) ahead += gluePart(other, which);
            }
            long size = excess > 0 ? excess : -excess;
            long change = Math.floorDiv(size * (ahead + gluePart(glue, which)), total)
                - Math.floorDiv(size * ahead, total);
            return excess > 0 ? natural + change : natural - change;
        }

        int itemAt(int box, int place) {
            return list.get(part(box, FIRST) + place);
        }

        // ---- what a caller asks

        /** A number of the item with this place in the order: a box, then its items, each with those in it. */
        int told(int box, int item, int what) {
            int left = item;
            int inside = -1;
            int place = 0;
            int id = box;
            int levels = 0;
            for (int n = 0; n < MOST_ITEMS && left > 0; n++) {
                // the item is among those in the box id: it is in one of its items, or is one
                left--;
                inside = id;
                levels++;
                place = 0;
                int size = part(inside, SIZE);
                while (place < size && left >= part(itemAt(inside, place), WHOLE)) {
                    left -= part(itemAt(inside, place), WHOLE);
                    place++;
                }
                id = itemAt(inside, place);
            }
            int kind = kind(id);
            if (what == 0) return kind;
            if (what <= 3) return kind <= RULE ? part(id, what) : 0;
            if (what == 5) return levels;
            int size = kind == GLUE && inside > 0 ? (int) glueSize(inside, place) : 0;
            if (what == 6) return kind == GLUE ? fitting(inside, part(id, FIRST), size) : 0;
            if (kind == GLUE) return size;
            return kind == RULE || kind >= HYPHEN ? 0 : part(id, NUMBER);
        }

        private int fitting(int inside, int box, int size) {
            if (box == 0 || size <= 0) return 0;
            int one = kind(inside) == HBOX ? part(box, WIDTH) : part(box, HEIGHT) + part(box, DEPTH);
            return one > 0 ? size / one : 0;
        }
    }

    /** The lists that are being made, the innermost one last, each with its mode. */
    private static final class Nest {
        private final State state;
        private final Items items;
        private final Page page;
        private final Row build = new Row(256, 4 * MOST_KEPT);
        private final int[] modes = new int[2 * MOST_GROUPS + 8];
        private final int[] begun = new int[2 * MOST_GROUPS + 8];
        int levels;

        Nest(State state, Items items, Page page) {
            this.state = state;
            this.items = items;
            this.page = page;
        }

        void reset() {
            build.n = 0;
            levels = 0;
            modes[0] = VERTICAL;
            begun[0] = 0;
        }

        int mode() {
            return modes[levels];
        }

        boolean isUpright() {
            return modes[levels] == VERTICAL || modes[levels] == INNER;
        }

        void open(int mode) {
            if (levels + 1 >= modes.length) state.fail(10);
            levels++;
            modes[levels] = mode;
            begun[levels] = build.n;
        }

        int size() {
            return build.n - begun[levels];
        }

        /** Ends a list; where it stands then among the finished ones. */
        int close() {
            int first = items.list.n;
            for (int i = begun[levels]; i < build.n; i++) items.list.add(build.get(i));
            drop(null);
            return first;
        }

        /** Ends a list, which goes into a row. */
        void drop(Row to) {
            if (to != null) for (int i = begun[levels]; i < build.n; i++) to.add(build.get(i));
            build.n = begun[levels];
            if (levels > 0) levels--;
        }

        void append(int id) {
            if (modes[levels] == VERTICAL) {
                page.arrived.add(id);
                return;
            }
            if (build.n - begun[levels] >= MOST_ITEMS) state.fail(10);
            build.add(id);
        }

        /** A box comes, in vertical lists perhaps with glue ahead of it. */
        void appendBox(int id) {
            if (modes[levels] == VERTICAL) {
                page.arrived.add(id | Page.WITH_GLUE);
                return;
            }
            int above = modes[levels] == INNER ? boxAbove() : 0;
            if (above != 0) append(items.glue(items.rigid(items.room(above, id)), 0));
            append(id);
        }

        /** A line or a row of an alignment comes to the page; it is made when those ahead have been looked at. */
        void promise(int first, int size, int spec, int told) {
            page.arrived.add(items.promise(first, size, spec, told) | Page.PROMISED);
        }

        /** The last box or rule of the list, if it is a box, otherwise 0. */
        private int boxAbove() {
            for (int i = build.n - 1; i >= begun[levels]; i--) {
                int id = build.a[i];
                if (items.isSolid(id)) return items.isBox(id) ? id : 0;
            }
            return 0;
        }
    }

    /** Patterns for hyphens. */
    private static final class Hyphens {
        private final State state;
        private final Tokens tokens;
        private final Items items;
        /** The patterns, one behind the other: each letter with the digit ahead of it, at the end 0 with one. */
        private final Row patterns = new Row(64, MOST_PATTERNS);
        private final Row letters = new Row(64, MOST_KEPT);
        private final Row values = new Row(64, MOST_KEPT);

        Hyphens(State state, Tokens tokens, Items items) {
            this.state = state;
            this.tokens = tokens;
            this.items = items;
        }

        void reset() {
            patterns.n = 0;
        }

        void add(int list) {
            int from = tokens.listAt(list);
            int size = tokens.listSize(list);
            int digit = 0;
            boolean begun = false;
            for (int i = 0; i <= size; i++) {
                int t = i < size ? tokens.pool.get(from + i) : SPACE;
                int code = (t & NAME) == 0 ? t & 127 : 0;
                if (t == SPACE) {
                    if (begun) patterns.add(digit << 8);
                    begun = false;
                    digit = 0;
                } else if (code >= '0' && code <= '9') {
                    digit = code - '0';
                    begun = true;
                } else if (code == '.' || code >= 'a' && code <= 'z') {
                    patterns.add(digit << 8 | code);
                    digit = 0;
                    begun = true;
                } else {
                    state.fail(6);
                }
            }
        }

        /** The small letter of an item, 0 if it is no letter. */
        private int letter(int id) {
            if (items.kind(id) != CHARACTER) return 0;
            int code = items.part(id, NUMBER);
            if (code >= 'A' && code <= 'Z') return code + 32;
            return code >= 'a' && code <= 'z' ? code : 0;
        }

        /** Copies a list with hyphens put in; whether any was. */
        boolean put(Row from, Row to) {
            to.n = 0;
            int i = 0;
            boolean any = false;
            while (i < from.n) {
                if (letter(from.get(i)) == 0) {
                    to.add(from.get(i));
                    i++;
                } else {
                    int end = readWord(from, i);
                    weigh();
                    if (copyWord(from, i, end, to)) any = true;
                    i = Math.max(end, i + 1);
                }
            }
            return any;
        }

        /** Takes the letters of the row that begins there, with a . ahead and behind; where it ends. */
        private int readWord(Row from, int start) {
            letters.n = 0;
            letters.add('.');
            int i = start;
            while (i < from.n) {
                int letter = letter(from.get(i));
                if (letter == 0 && items.kind(from.get(i)) != HYPHEN) break;
                if (letter != 0) letters.add(letter);
                i++;
            }
            letters.add('.');
            return i;
        }

        /** The greatest digit for each place; place k is ahead of letter k. */
        private void weigh() {
            values.n = 0;
            for (int k = 0; k <= letters.n; k++) values.add(0);
            if (letters.n < 7) return;
            int begin = 0;
            while (begin < patterns.n) {
                int end = begin;
                while (end < patterns.n && (patterns.get(end) & 255) != 0) end++;
                for (int k = 0; k + end - begin <= letters.n; k++) tryPattern(begin, end, k);
                begin = end + 1;
            }
        }

        private void tryPattern(int begin, int end, int k) {
            for (int i = begin; i < end; i++) if ((patterns.get(i) & 255) != letters.get(k + i - begin)) return;
            for (int i = begin; i <= end; i++) {
                int digit = patterns.get(i) >> 8;
                if (digit > values.get(k + i - begin)) values.set(k + i - begin, digit);
            }
        }

        private boolean copyWord(Row from, int start, int end, Row to) {
            int count = letters.n - 2;
            int ahead = 0;
            boolean any = false;
            for (int i = start; i < end; i++) {
                int id = from.get(i);
                to.add(id);
                if (items.kind(id) == HYPHEN) continue;
                ahead++;
                boolean stands = i + 1 < end && items.kind(from.get(i + 1)) == HYPHEN;
                if (ahead >= 2 && count - ahead >= 3 && values.get(ahead + 1) % 2 == 1 && !stands) {
                    to.add(Items.A_HYPHEN);
                    any = true;
                }
            }
            return any;
        }
    }

    /** Paragraphs and their breaks. */
    private static final class Lines {
        /** The places of a paragraph are its beginning, those where it can be broken, and its end. */
        private static final int SIDE = MOST_PLACES + 2;
        private static final long FAR_OFF = 4000000000000000000L;

        private final State state;
        private final Items items;
        private final Nest nest;
        private final Hyphens hyphens;
        private final Row row = new Row(256, MOST_KEPT);
        private final Row spare = new Row(256, MOST_KEPT);
        private int places;
        private final int[] place = new int[SIDE];
        private final int[] penalty = new int[SIDE];
        /** For a line from one place to another its demerits, but for those by the fitness of the line ahead. */
        private final long[] cost = new long[SIDE * SIDE];
        /** For such a line 4 times its badness and its fitness, -1 if there is none. */
        private final int[] shape = new int[SIDE * SIDE];
        private final long[] sums = new long[9];
        /** For a place and the fitness of the line that ends there: the least sum behind it, and its lines. */
        private final long[] leastSum = new long[SIDE * 5];
        private final int[] leastCount = new int[SIDE * 5];
        private long[] exact = new long[0];
        private final int[] chosen = new int[SIDE];
        final Row lineCounts = new Row(16, MOST_KEPT);
        final Row placeCounts = new Row(16, MOST_KEPT);
        /** A paragraph takes two steps at least, but for one that ends with the document. */
        final long[] demerits = new long[MOST_STEPS / 2 + 2];
        /** The paragraph for which all breaks are tried, -1 for none, and what came of it. */
        int tried = -1;
        long least;

        Lines(State state, Items items, Nest nest, Hyphens hyphens) {
            this.state = state;
            this.items = items;
            this.nest = nest;
            this.hyphens = hyphens;
        }

        void reset() {
            lineCounts.n = 0;
            placeCounts.n = 0;
        }

        boolean has(int paragraph) {
            return paragraph >= 0 && paragraph < lineCounts.n && paragraph < demerits.length;
        }

        /** Ends the paragraph that is being made. */
        void end() {
            row.n = 0;
            nest.drop(row);
            if (items.kind(row.get(row.n - 1)) == GLUE) row.n--;
            if (row.n < 2) return;
            if (row.n + 2 > MOST_ITEMS) state.fail(10);
            row.add(Items.NO_BREAK);
            row.add(Items.FILL_GLUE);
            int limit = state.value[TOL];
            boolean hyphened = false;
            findPlaces(row);
            weigh(row);
            if (!solve(limit)) {
                hyphened = hyphens.put(row, spare);
                if (hyphened) {
                    findPlaces(spare);
                    weigh(spare);
                }
                if (!hyphened || !solve(limit)) {
                    limit = 10000;
                    solve(limit);
                }
            }
            int lines = state.value[LOOSE] == 0 ? leastCount[4] : solveLoosely(limit);
            choose(lines, state.value[LOOSE] != 0, limit);
            record(lines, limit);
            deliver(hyphened ? spare : row, lines);
        }

        // ---- places

        private void findPlaces(Row list) {
            places = 0;
            place[0] = -1;
            penalty[0] = 0;
            for (int i = 1; i < list.n; i++) {
                int id = list.get(i);
                int kind = items.kind(id);
                int cost = kind == PENALTY ? items.part(id, NUMBER) : kind == HYPHEN ? state.value[HYPHPEN] : 0;
                boolean can = kind == HYPHEN || kind == PENALTY && cost < 10000
                    || kind == GLUE && holdsGlue(items.kind(list.get(i - 1)));
                if (!can) continue;
                if (places >= MOST_PLACES) state.fail(10);
                places++;
                place[places] = i;
                penalty[places] = cost;
            }
            place[places + 1] = list.n;
            penalty[places + 1] = 0;
        }

        /** Whether a glue can be broken behind an item of this kind. */
        private boolean holdsGlue(int kind) {
            return kind <= RULE || kind == HYPHEN;
        }

        // ---- lines

        private void weigh(Row list) {
            for (int p = 0; p <= places; p++) weighFrom(list, p);
        }

        private void weighFrom(Row list, int p) {
            Arrays.fill(sums, 0L);
            Arrays.fill(shape, p * SIDE, p * SIDE + SIDE, -1);
            boolean begun = false;
            int q = p + 1;
            for (int i = place[p] + 1; i <= list.n; i++) {
                int id = list.get(i);
                int kind = items.kind(id);
                if (i == place[q]) {
                    weighLine(p, q, q <= places && kind == HYPHEN);
                    if (q > places || penalty[q] <= -10000) return;
                    q++;
                }
                boolean light = kind == GLUE || kind == KERN || kind == PENALTY;
                if (!light && kind != MARK && kind != INSERTION) begun = true;
                if (begun) items.addAcross(sums, id);
            }
        }

        private void weighLine(int p, int q, boolean hyphen) {
            long natural = sums[0] + (hyphen ? items.part('-', WIDTH) : 0);
            long excess = state.value[HSIZE] - natural;
            int bad = Math.min(10000, items.badness(sums, excess, items.order(sums, excess)));
            int fit = excess < 0 && bad > 12 ? 0 : excess <= 0 || bad < 13 ? 1 : bad < 100 ? 2 : 3;
            long both = (long) state.value[LINEPEN] + bad;
            long sum = both * both;
            long by = penalty[q];
            if (by > 0) sum += by * by;
            else if (by > -10000) sum -= by * by;
            cost[p * SIDE + q] = sum;
            shape[p * SIDE + q] = 4 * bad + fit;
        }

        // ---- rows of lines

        /** The demerits of a line behind one of this fitness; 4 stands for no line. */
        private long costBehind(int line, int fit) {
            int other = shape[line] & 3;
            return cost[line] + (fit < 4 && (fit - other > 1 || other - fit > 1) ? 3000 : 0);
        }

        /** Finds the least sums, with the fewest lines; whether there is a row of lines within the limit. */
        private boolean solve(int limit) {
            for (int p = places; p >= 0; p--) {
                for (int fit = p == 0 ? 4 : 0; fit < (p == 0 ? 5 : 4); fit++) {
                    long best = FAR_OFF;
                    int bestCount = 0;
                    for (int q = p + 1; q <= places + 1; q++) {
                        int line = p * SIDE + q;
                        int behind = q * 5 + (shape[line] & 3);
                        if (shape[line] < 0 || shape[line] / 4 > limit) continue;
                        if (q <= places && leastSum[behind] == FAR_OFF) continue;
                        long sum = costBehind(line, fit) + (q > places ? 0 : leastSum[behind]);
                        int count = 1 + (q > places ? 0 : leastCount[behind]);
                        if (sum > best || sum == best && best != FAR_OFF && count > bestCount) continue;
                        best = sum;
                        bestCount = count;
                    }
                    leastSum[p * 5 + fit] = best;
                    leastCount[p * 5 + fit] = bestCount;
                }
            }
            return leastSum[4] != FAR_OFF;
        }

        private int at(int lines, int p, int fit) {
            return (lines * SIDE + p) * 5 + fit;
        }

        /** Finds the least sums for each number of lines; the number that is taken. */
        private int solveLoosely(int limit) {
            if (exact.length == 0) exact = new long[SIDE * SIDE * 5];
            for (int lines = 1; lines <= places + 1; lines++) {
                for (int p = places; p >= 0; p--) {
                    for (int fit = p == 0 ? 4 : 0; fit < (p == 0 ? 5 : 4); fit++) {
                        long best = FAR_OFF;
                        for (int q = p + 1; q <= places + 1; q++) {
                            best = Math.min(best, sumOver(lines, p, fit, q, limit));
                        }
                        exact[at(lines, p, fit)] = best;
                    }
                }
            }
            long target = (long) leastCount[4] + state.value[LOOSE];
            int taken = leastCount[4];
            for (int lines = places + 1; lines > 0; lines--) {
                if (exact[at(lines, 0, 4)] == FAR_OFF) continue;
                if (Math.abs(lines - target) <= Math.abs(taken - target)) taken = lines;
            }
            return taken;
        }

        /** The least sum of so many lines from p on, of which the first one ends at q. */
        private long sumOver(int lines, int p, int fit, int q, int limit) {
            int line = p * SIDE + q;
            if (shape[line] < 0 || shape[line] / 4 > limit || lines == 1 != q > places) return FAR_OFF;
            long behind = lines == 1 ? 0 : exact[at(lines - 1, q, shape[line] & 3)];
            return behind == FAR_OFF ? FAR_OFF : behind + costBehind(line, fit);
        }

        /** Takes the breaks, each as late as may be. */
        private void choose(int lines, boolean loosely, int limit) {
            int p = 0;
            int fit = 4;
            long sum = loosely ? exact[at(lines, 0, 4)] : leastSum[4];
            for (int k = 1; k <= lines; k++) {
                int left = lines - k;
                for (int q = places + 1; q > p; q--) {
                    int line = p * SIDE + q;
                    if (shape[line] < 0 || shape[line] / 4 > limit || left == 0 != q > places) continue;
                    int behind = q * 5 + (shape[line] & 3);
                    long rest = left == 0 ? 0 : loosely ? exact[at(left, q, shape[line] & 3)] : leastSum[behind];
                    if (rest == FAR_OFF || rest + costBehind(line, fit) != sum) continue;
                    if (left > 0 && !loosely && leastCount[behind] != left) continue;
                    chosen[k] = q;
                    fit = shape[line] & 3;
                    p = q;
                    sum = rest;
                    break;
                }
            }
        }

        private void record(int lines, int limit) {
            int told = lineCounts.n;
            long sum = 0;
            int p = 0;
            int fit = 4;
            for (int k = 1; k <= lines; k++) {
                int line = p * SIDE + chosen[k];
                sum += costBehind(line, fit);
                fit = shape[line] & 3;
                p = chosen[k];
            }
            if (told < demerits.length) demerits[told] = sum;
            lineCounts.add(lines);
            placeCounts.add(places);
            if (told == tried && places <= MOST_TRIED) least = tryAll(limit, state.value[LOOSE] == 0 ? 0 : lines);
        }

        /** The least sum of all rows of lines within the limit, with so many lines if this is not 0. */
        private long tryAll(int limit, int wanted) {
            long best = FAR_OFF;
            for (int set = 0; set < 1 << places; set++) {
                long sum = 0;
                int p = 0;
                int fit = 4;
                int lines = 0;
                boolean good = true;
                for (int q = 1; q <= places + 1 && good; q++) {
                    if (q <= places && (set >> q - 1 & 1) == 0) continue;
                    int line = p * SIDE + q;
                    good = shape[line] >= 0 && shape[line] / 4 <= limit;
                    sum += costBehind(line, fit);
                    fit = shape[line] & 3;
                    p = q;
                    lines++;
                }
                if (good && (wanted == 0 || lines == wanted) && sum < best) best = sum;
            }
            return best;
        }

        // ---- what comes of it

        private void deliver(Row list, int lines) {
            int hsize = state.value[HSIZE];
            int p = 0;
            for (int k = 1; k <= lines; k++) {
                int q = chosen[k];
                int first = items.list.n;
                collect(list, p, q);
                int size = items.list.n - first;
                if (nest.mode() == VERTICAL) nest.promise(first, size, TO, hsize);
                else nest.appendBox(items.pack(HBOX, first, size, TO, hsize));
                for (int i = place[p] + 1; i < place[q]; i++) {
                    int kind = items.kind(list.get(i));
                    if (kind == MARK || kind == INSERTION) nest.append(list.get(i));
                }
                if (k < lines && (k == 1 || k == lines - 1)) nest.append(Items.LINE_PENALTY);
                p = q;
            }
        }

        private void collect(Row list, int p, int q) {
            boolean begun = false;
            for (int i = place[p] + 1; i < place[q]; i++) {
                int id = list.get(i);
                int kind = items.kind(id);
                if (kind == MARK || kind == INSERTION) continue;
                if (kind != GLUE && kind != KERN && kind != PENALTY) begun = true;
                if (begun) items.list.add(id);
            }
            if (q <= places && items.kind(list.get(place[q])) == HYPHEN) items.list.add('-');
        }
    }

    /** The list of the page, and the pages that are broken from it. */
    private static final class Page {
        /** Tells that the box comes with glue ahead of it, if there is a box above. */
        static final int WITH_GLUE = 1 << 30;
        /** Tells likewise of a box that has to be made yet. */
        static final int PROMISED = 1 << 30 | 1 << 29;
        /** Tells that an item broke a page, and is not in the list before it is looked at anew. */
        private static final int ANEW = 1 << 28;

        private final State state;
        private final Tokens tokens;
        private final Items items;
        /** What was looked at of this page, and what stays to be looked at, the next one last. */
        final Row list = new Row(64, MOST_KEPT);
        private final Row waiting = new Row(64, 2 * MOST_KEPT);
        /** What comes to the list, the next one first. */
        final Row arrived = new Row(64, MOST_KEPT);
        private int given;
        private final Row taken = new Row(32, MOST_KEPT);
        private long takenSize;
        private final Row left = new Row(8, MOST_KEPT);
        private boolean leftBefore;
        /** How many items stay in the list when a page is broken, and how many of those waiting are not in it. */
        private int stays;
        private int outside;
        private int best;
        private int bestCost;
        private boolean solid;
        private int previous;
        private final long[] sums = new long[9];
        /** Whether \output has to be run, and whether it is. */
        boolean ripe;
        boolean open;
        private int breaks;
        final Row shipped = new Row(16, MOST_KEPT);

        Page(State state, Tokens tokens, Items items) {
            this.state = state;
            this.tokens = tokens;
            this.items = items;
        }

        void reset() {
            waiting.n = 0;
            outside = 0;
            arrived.n = 0;
            given = 0;
            left.n = 0;
            leftBefore = false;
            ripe = false;
            open = false;
            breaks = 0;
            shipped.n = 0;
            begin();
        }

        private void begin() {
            list.n = 0;
            taken.n = 0;
            takenSize = 0;
            best = -1;
            solid = false;
            previous = -1;
            Arrays.fill(sums, 0L);
        }

        /** Whether something is to be looked at now. */
        boolean isBusy() {
            return !open && !ripe && (waiting.n > 0 || given < arrived.n);
        }

        /** Looks at one item. */
        void work() {
            int id = waiting.n > 0 ? waiting.take() : come();
            if ((id & ANEW) != 0) outside--;
            id &= ~ANEW;
            if (items.kind(id) == INSERTION) {
                takeIn(id);
                previous = INSERTION;
                return;
            }
            int place = look(id);
            if (place >= 0) breakAt(place, place == list.n ? 0 : id);
        }

        /** The next item that comes; a box with glue ahead of it comes when this has been looked at. */
        private int come() {
            int id = arrived.get(given);
            if ((id & WITH_GLUE) != 0) {
                boolean promised = (id & PROMISED) == PROMISED;
                id &= ~PROMISED;
                if (promised) id = items.redeem(id);
                int above = boxAbove();
                if (above != 0) {
                    arrived.set(given, id);
                    return items.glue(items.rigid(items.room(above, id)), 0);
                }
            }
            given++;
            if (given == arrived.n) {
                given = 0;
                arrived.n = 0;
            }
            return id;
        }

        private int boxAbove() {
            for (int i = list.n - 1; i >= 0; i--) {
                int id = list.get(i);
                if (items.isSolid(id)) return items.isBox(id) ? id : 0;
            }
            return 0;
        }

        /** Looks at an item; where the page has to be broken by it, -1 if it has not. */
        private int look(int id) {
            int kind = items.kind(id);
            if (!solid && (kind == GLUE || kind == KERN || kind == PENALTY)) return -1;
            int penalty = kind == PENALTY ? items.part(id, NUMBER) : 0;
            boolean holds = previous >= HBOX && previous <= RULE || previous == MARK || previous == INSERTION;
            boolean can = kind == PENALTY && penalty < 10000 || kind == GLUE && holds;
            if (can) {
                int bad = badness();
                if (penalty <= -10000) return list.n;
                if (bad == LARGEST) return best >= 0 ? best : list.n;
                if (best < 0 || bad + penalty <= bestCost) {
                    best = list.n;
                    bestCost = bad + penalty;
                }
            }
            if (list.n >= MOST_ITEMS) state.fail(10);
            list.add(id);
            items.addDown(sums, id);
            if (items.isSolid(id)) solid = true;
            previous = kind;
            return -1;
        }

        /** The badness of what was looked at, as a box of the size that is left. */
        private int badness() {
            int last = list.get(list.n - 1);
            int depth = list.n > 0 && items.isSolid(last) ? Math.max(0, items.part(last, DEPTH)) : 0;
            long excess = state.value[VSIZE] - takenSize - (sums[0] - depth);
            return items.badness(sums, excess, items.order(sums, excess));
        }

        // ---- insertions

        private void takeIn(int id) {
            int first = items.part(id, FIRST);
            int size = items.part(id, SIZE);
            long extent = items.extent(first, size);
            int stays = size;
            while (stays > 0 && !fits(first, stays, size, extent)) {
                stays--;
                extent -= items.down(items.list.get(first + stays));
            }
            // a box of more than 2000 items is refused, so no more of them are kept
            for (int i = 0; i < stays && taken.n <= MOST_ITEMS; i++) taken.add(items.list.get(first + i));
            takenSize += extent;
            if (stays < size) left.add(items.rest(id, stays));
        }

        /** Whether so many items of an insertion can stay on this page, if the others are left. */
        private boolean fits(int first, int stays, int size, long extent) {
            if (stays < size && !items.isSolid(items.list.get(first + stays - 1))) return false;
            return 2 * (extent + takenSize) <= state.value[VSIZE];
        }

        // ---- breaking

        /** Whether the list has to be broken at the end of the document. */
        boolean isUnfinished() {
            return solid || left.n > 0 || leftBefore;
        }

        /** Breaks the page ahead of a place; what broke it, if it is no glue or penalty there, is looked at anew. */
        void breakAt(int place, int again) {
            if (breaks >= MOST_PAGES) state.fail(10);
            breaks++;
            int first = items.list.n;
            for (int i = 0; i < place; i++) items.list.add(list.get(i));
            state.set(BOXES + 9, items.pack(VBOX, first, place, TO, state.value[VSIZE] - takenSize), true);
            int takenFirst = items.list.n;
            for (int i = 0; i < taken.n; i++) items.list.add(taken.get(i));
            state.set(BOXES + 8, taken.n == 0 ? 0 : items.pack(VBOX, takenFirst, taken.n, NATURAL, 0), true);
            tellMarks(place);
            stays = waiting.n - outside + Math.max(0, list.n - place - 1);
            if (again != 0) {
                waiting.add(again | ANEW);
                outside++;
            }
            for (int i = list.n - 1; i > place; i--) waiting.add(list.get(i));
            leftBefore = left.n > 0;
            begin();
            if (tokens.listSize(state.value[OUTPUT]) > 0) ripe = true;
            else shipBoth();
        }

        private void tellMarks(int place) {
            boolean any = false;
            for (int i = 0; i < place; i++) {
                int id = list.get(i);
                if (items.kind(id) != MARK) continue;
                if (!any) state.firstMark = items.part(id, NUMBER);
                state.lastMark = items.part(id, NUMBER);
                any = true;
            }
            if (!any) state.firstMark = state.lastMark;
        }

        /** What is done without tokens of \output. */
        private void shipBoth() {
            int first = items.list.n;
            items.list.add(state.value[BOXES + 9]);
            if (state.value[BOXES + 8] != 0) items.list.add(state.value[BOXES + 8]);
            shipped.add(items.pack(VBOX, first, items.list.n - first, NATURAL, 0));
            state.value[BOXES + 9] = 0;
            state.value[BOXES + 8] = 0;
            putLeft();
        }

        private void putLeft() {
            if (stays + left.n > MOST_ITEMS) state.fail(10);
            for (int i = left.n - 1; i >= 0; i--) waiting.add(left.get(i));
            left.n = 0;
        }

        /** Goes on behind \output, which made a list. */
        void goOn(int first, int size) {
            open = false;
            if (state.value[BOXES + 9] != 0) state.fail(13);
            for (int i = size - 1; i >= 0; i--) waiting.add(items.list.get(first + i));
            stays += size;
            putLeft();
        }
    }

    /** Alignments that are begun, the innermost one last. */
    private static final class Align {
        private static final int CR = NAME | C_CR;
        /** For each alignment: where its tokens go on and end, its columns, and so on; then its template. */
        private static final int CURSOR = 0, LAST = 1, COLUMNS = 2, COLUMN = 3, CELLS = 4, BEGINS_ROW = 5, TEMPLATE = 6,
            STRIDE = 6 + 3 * MOST_COLUMNS;
        private static final int FIRST_OF_ROW = 1 << 30;

        private final State state;
        private final Tokens tokens;
        private final Items items;
        private final Nest nest;
        private final int[] data = new int[(MOST_GROUPS + 2) * STRIDE];
        private int at = -STRIDE;
        private final Row cells = new Row(32, MOST_KEPT);
        private final Row boxes = new Row(32, MOST_KEPT);
        private final int[] widths = new int[MOST_COLUMNS];

        Align(State state, Tokens tokens, Items items, Nest nest) {
            this.state = state;
            this.tokens = tokens;
            this.items = items;
            this.nest = nest;
        }

        void reset() {
            at = -STRIDE;
            cells.n = 0;
        }

        /** Begins an alignment with this list of tokens: reads the template. */
        void begin(int list) {
            if (at + 2 * STRIDE > data.length) state.fail(10);
            at += STRIDE;
            int from = tokens.listAt(list);
            int end = from + tokens.listSize(list);
            int columns = 0;
            int begin = from;
            int stop = from;
            while (columns <= MOST_COLUMNS) {
                if (columns == MOST_COLUMNS) state.fail(6);
                stop = partEnd(begin, end);
                if (stop >= end) state.fail(6);
                int part = at + TEMPLATE + 3 * columns;
                data[part] = begin;
                data[part + 1] = slot(begin, stop);
                data[part + 2] = stop;
                columns++;
                if (tokens.pool.get(stop) == CR) break;
                begin = stop + 1;
            }
            data[at + CURSOR] = stop + 1;
            data[at + LAST] = end;
            data[at + COLUMNS] = columns;
            data[at + COLUMN] = 0;
            data[at + CELLS] = cells.n;
        }

        /** Where the part that begins there ends: at a TAB or \cr outside of { and }, or at the end. */
        private int partEnd(int from, int end) {
            int depth = 0;
            for (int i = from; i < end; i++) {
                int t = tokens.pool.get(i);
                int kind = tokens.kind(t);
                if (kind == OPEN) depth++;
                if (kind == CLOSE) depth--;
                if (depth == 0 && (kind == TAB || t == CR)) return i;
            }
            return end;
        }

        /** Where the only PARAMETER of a part of the template is. */
        private int slot(int from, int end) {
            int found = -1;
            for (int i = from; i < end; i++) {
                if (tokens.kind(tokens.pool.get(i)) != PARAMETER) continue;
                if (found >= 0) state.fail(6);
                found = i;
            }
            if (found < 0) state.fail(6);
            return found;
        }

        /** Puts the tokens of the next cell ahead; whether there is one. */
        boolean putCell() {
            if (at < 0) return false;
            int cursor = data[at + CURSOR];
            int end = data[at + LAST];
            int column = data[at + COLUMN];
            if (column == 0 && !rowComes(cursor, end)) return false;
            int stop = partEnd(cursor, end);
            while (cursor < stop && tokens.pool.get(cursor) == SPACE) cursor++;
            int template = at + TEMPLATE + 3 * (column < MOST_COLUMNS ? column : 0);
            tokens.pending.add(FENCE);
            tokens.pushRange(data[template + 1] + 1, data[template + 2]);
            tokens.pushRange(cursor, stop);
            tokens.pushRange(data[template], data[template + 1]);
            data[at + BEGINS_ROW] = column == 0 ? FIRST_OF_ROW : 0;
            data[at + COLUMN] = stop < end && tokens.pool.get(stop) != CR ? column + 1 : 0;
            data[at + CURSOR] = stop < end ? stop + 1 : end;
            return true;
        }

        private boolean rowComes(int cursor, int end) {
            int parts = 1;
            boolean solid = false;
            int stop = partEnd(cursor, end);
            while (stop < end && tokens.pool.get(stop) != CR) {
                parts++;
                solid = true;
                stop = partEnd(stop + 1, end);
            }
            for (int i = cursor; i < stop && !solid; i++) solid = tokens.pool.get(i) != SPACE;
            if (stop == end && !solid) return false;
            if (parts > data[at + COLUMNS]) state.fail(6);
            return true;
        }

        void addCell(int box) {
            if (at >= 0) cells.add(box | data[at + BEGINS_ROW]);
        }

        /** Sets all boxes to the widths of their columns; the rows come to the list at hand. */
        void end() {
            if (at < 0) return;
            int first = data[at + CELLS];
            int count = cells.n;
            measure(first);
            int i = first;
            while (i < count) {
                boxes.n = 0;
                do {
                    int box = cells.get(i) & ~FIRST_OF_ROW;
                    int width = boxes.n < MOST_COLUMNS ? widths[boxes.n] : 0;
                    boxes.add(items.pack(HBOX, items.part(box, FIRST), items.part(box, SIZE), TO, width));
                    i++;
                } while (i < count && (cells.get(i) & FIRST_OF_ROW) == 0);
                int begin = items.list.n;
                for (int k = 0; k < boxes.n; k++) items.list.add(boxes.get(k));
                if (nest.mode() == VERTICAL) nest.promise(begin, boxes.n, NATURAL, 0);
                else nest.appendBox(items.pack(HBOX, begin, boxes.n, NATURAL, 0));
            }
            cells.n = first;
            at -= STRIDE;
        }

        private void measure(int first) {
            Arrays.fill(widths, 0);
            int column = 0;
            for (int i = first; i < cells.n; i++) {
                if ((cells.get(i) & FIRST_OF_ROW) != 0) column = 0;
                if (column < MOST_COLUMNS) {
                    widths[column] = Math.max(widths[column], items.part(cells.get(i) & ~FIRST_OF_ROW, WIDTH));
                }
                column++;
            }
        }
    }

    /** The run: what is done with the tokens that come. */
    private static final class Engine {
        /** For each group its kind, what becomes of its box, a number and \global for that, and the size of the box. */
        private static final int G_KIND = 0, G_TARGET = 1, G_NUMBER = 2, G_GLOBAL = 3, G_BOX = 4, G_SPEC = 5, G_SIZE = 6,
            G_PARTS = 7;

        final State state = new State();
        private final Tokens tokens = new Tokens(state);
        final Items items = new Items(state);
        final Page page = new Page(state, tokens, items);
        private final Nest nest = new Nest(state, items, page);
        private final Hyphens hyphens = new Hyphens(state, tokens, items);
        final Lines lines = new Lines(state, items, nest, hyphens);
        private final Expander expander = new Expander(state, tokens, items);
        private final Align align = new Align(state, tokens, items, nest);
        private final int[] groups = new int[MOST_GROUPS * G_PARTS];
        /** Whether the run is not that of the document. */
        boolean stale = true;
        /** What has to come next: a BOX, an assignment, the glue of \leaders, or, if it is 0, any token. */
        private int awaited;
        /** What becomes of the BOX that comes, a number for that, and \global. */
        private int target;
        private int targetNumber;
        private boolean global;
        /** A command that goes on when the page has been looked at, -1 without one. */
        private int resumed;
        /** 0 ahead of the end of the document, 1 at it, 2 when nothing was found open there, 3 when all is over. */
        private int ending;
        private int poured;
        /** The token that is executed, and the command that it means. */
        private int token;
        private int command;

        private void reset(int[] document, int length) {
            state.reset();
            tokens.reset(document, length);
            items.reset();
            page.reset();
            nest.reset();
            hyphens.reset();
            lines.reset();
            expander.reset();
            align.reset();
            awaited = NOTHING;
            target = ALONE;
            targetNumber = 0;
            global = false;
            resumed = -1;
            ending = 0;
            poured = 0;
        }

        /** Runs the document, if it is not the one that was run last. */
        void run(int[] document, int length) {
            if (!stale) return;
            stale = false;
            reset(document, length);
            try {
                for (int i = 0; i < FAR && ending < 3; i++) {
                    switch (job()) {
                        case LOOK_AT_PAGE: page.work(); break;
                        case RUN_OUTPUT: runOutput(); break;
                        case MAKE_BOX: makeBox(command); break;
                        case MAKE_LEADERS: makeLeaders(); break;
                        case FINISH: finish(); break;
                        case TYPESET: typeset(command); break;
                        case ASSIGN: assign(command); break;
                        case SIGN: typesetSign(); break;
                        case BEGIN_GROUP: openGroup(PLAIN_GROUP); break;
                        case END_GROUP: endGroup(token == FENCE); break;
                        case END_DOCUMENT: endDocument(); break;
                        default:
                    }
                }
            } catch (IllegalStateException e) {
                ending = 3;
            }
        }

        /** What is to be done next; a token is read for it, if all that came has been looked at. */
        private int job() {
            if (page.isBusy()) return LOOK_AT_PAGE;
            if (page.ripe) return RUN_OUTPUT;
            if (awaited == MAKE_BOX) return boxJob();
            if (awaited == ASSIGN) return assignmentJob();
            if (awaited == MAKE_LEADERS) return MAKE_LEADERS;
            if (ending > 0 && !page.open) return FINISH;
            if (resumed >= 0 && !page.open) {
                command = resumed;
                resumed = -1;
                return TYPESET;
            }
            token = expander.next();
            return token == END ? END_DOCUMENT : tokenJob(tokens.held);
        }

        private int tokenJob(boolean held) {
            state.step();
            int m = tokens.meaning(token);
            if (held && tokens.expandable(m)) return NOTHING;
            if (m == 0) state.fail(1);
            if (m >> 16 == IS_CHARACTER) {
                int kind = m >> 8 & 15;
                return kind == OPEN ? BEGIN_GROUP : kind == CLOSE ? END_GROUP : SIGN;
            }
            command = m & 0xFFFF;
            global = false;
            if (command == C_GLOBAL) {
                global = true;
                awaited = ASSIGN;
                return NOTHING;
            }
            if (command == C_END) return END_DOCUMENT;
            if (command >= C_DEF) return ASSIGN;
            if (command >= C_HBOX) {
                target = ALONE;
                return MAKE_BOX;
            }
            return TYPESET;
        }

        /** Reads what stands behind \global, which may be one more. */
        private int assignmentJob() {
            command = tokens.command(expander.needed());
            if (command == C_GLOBAL) return NOTHING;
            if (command < C_DEF) state.fail(6);
            awaited = NOTHING;
            return ASSIGN;
        }

        private int boxJob() {
            command = tokens.command(expander.needed());
            if (command < C_HBOX || command > C_COPY) state.fail(6);
            awaited = NOTHING;
            return MAKE_BOX;
        }

        // ---- the end

        /** Reads no more, and ends a paragraph of the page. */
        private void endDocument() {
            tokens.drop();
            if (page.open) state.fail(9);
            if (nest.mode() == PARAGRAPH && nest.levels == 1) lines.end();
            ending = 1;
        }

        private void finish() {
            if (ending == 1 && (state.groups > 0 || expander.conditions.n > 0)) state.fail(9);
            ending = 2;
            if (page.isUnfinished()) page.breakAt(page.list.n, 0);
            else ending = 3;
        }

        // ---- groups

        private void openGroup(int kind) {
            state.openGroup();
            int at = (state.groups - 1) * G_PARTS;
            groups[at + G_KIND] = kind;
            groups[at + G_TARGET] = target;
            groups[at + G_NUMBER] = targetNumber;
            groups[at + G_GLOBAL] = global ? 1 : 0;
        }

        private void endGroup(boolean fence) {
            if (state.groups < 1) state.fail(8);
            int at = (state.groups - 1) * G_PARTS;
            int kind = groups[at + G_KIND];
            boolean fenced = kind == OUTPUT_GROUP || kind == CELL_GROUP;
            if (fence != fenced) state.fail(fence ? 9 : 8);
            if (kind != PLAIN_GROUP && nest.mode() == PARAGRAPH) lines.end();
            state.closeGroup();
            if (kind == PLAIN_GROUP) return;
            int size = nest.size();
            int first = nest.close();
            if (kind == OUTPUT_GROUP) {
                page.goOn(first, size);
            } else if (kind == INSERT_GROUP) {
                nest.append(items.insertion(first, size));
            } else if (kind == CELL_GROUP) {
                align.addCell(items.pack(HBOX, first, size, NATURAL, 0));
                goOnAligning();
            } else {
                target = groups[at + G_TARGET];
                targetNumber = groups[at + G_NUMBER];
                global = groups[at + G_GLOBAL] != 0;
                deliver(items.pack(groups[at + G_BOX], first, size, groups[at + G_SPEC], groups[at + G_SIZE]));
            }
        }

        private void runOutput() {
            page.ripe = false;
            page.open = true;
            openGroup(OUTPUT_GROUP);
            nest.open(INNER);
            tokens.pending.add(FENCE);
            tokens.pushList(state.value[OUTPUT]);
        }

        private void goOnAligning() {
            if (align.putCell()) {
                openGroup(CELL_GROUP);
                nest.open(ROW);
            } else {
                align.end();
            }
        }

        // ---- boxes

        private void makeBox(int p) {
            if (p == C_BOX || p == C_COPY) {
                int n = expander.index();
                int box = state.value[BOXES + n];
                if (p == C_BOX) state.value[BOXES + n] = 0;
                deliver(box);
                return;
            }
            int spec = expander.keyword("to") ? TO : expander.keyword("spread") ? SPREAD : NATURAL;
            int size = spec == NATURAL ? 0 : expander.amount(false);
            expander.brace();
            openGroup(BOX_GROUP);
            int at = (state.groups - 1) * G_PARTS;
            groups[at + G_BOX] = p == C_HBOX ? HBOX : VBOX;
            groups[at + G_SPEC] = spec;
            groups[at + G_SIZE] = size;
            nest.open(p == C_HBOX ? ROW : INNER);
        }

        /** Does with a box, which may be empty, what it was made for. */
        private void deliver(int box) {
            if (target == TO_REGISTER) state.set(BOXES + targetNumber, box, global);
            if (target == FOR_LEADERS) {
                if (box == 0) state.fail(6);
                targetNumber = box;
                awaited = MAKE_LEADERS;
            }
            if (box == 0) return;
            if (target == ALONE) nest.appendBox(box);
            if (target == RAISED) nest.append(items.raised(box, targetNumber));
            if (target == SHIPPED) page.shipped.add(box);
        }

        private void await(int becomes, int number) {
            target = becomes;
            targetNumber = number;
            awaited = MAKE_BOX;
        }

        private void makeLeaders() {
            awaited = NOTHING;
            int box = targetNumber;
            int p = tokens.command(expander.needed());
            if (p != (nest.isUpright() ? C_VSKIP : C_HSKIP)) state.fail(7);
            expander.amount(true);
            nest.append(items.glue(items.measure(expander.measure), box));
        }

        // ---- what is no assignment

        private void typesetSign() {
            int sign = tokens.meaning(token);
            int kind = sign >> 8 & 15;
            if (kind == PARAMETER || kind == TAB) state.fail(7);
            if (kind == BLANK) {
                if (!nest.isUpright()) nest.append(Items.BLANK_GLUE);
                return;
            }
            beginParagraph();
            nest.append(sign & 127);
        }

        private void beginParagraph() {
            if (!nest.isUpright()) return;
            nest.open(PARAGRAPH);
            nest.append(items.solid(HBOX, state.value[INDENT], 0, 0));
        }

        private void typeset(int p) {
            if ((p == C_VSKIP || p == C_ALIGN) && nest.mode() == ROW) state.fail(7);
            if ((p == C_VSKIP || p == C_ALIGN) && nest.mode() == PARAGRAPH) {
                lines.end();
                if (nest.mode() == VERTICAL) {
                    // the page is looked at first, so that \output has been run when more is read
                    resumed = p;
                    return;
                }
            }
            switch (p) {
                case C_ENDCSNAME: case C_CR: state.fail(11); break;
                case C_WD: case C_HT: case C_DP: state.fail(1); break;
                case C_PAR: if (nest.mode() == PARAGRAPH) lines.end(); break;
                case C_HSKIP: case C_VSKIP:
                    if (p == C_HSKIP) beginParagraph();
                    expander.amount(true);
                    nest.append(items.glue(items.measure(expander.measure), 0));
                    break;
                case C_KERN: nest.append(items.make(KERN, expander.amount(false))); break;
                case C_PENALTY:
                    nest.append(items.make(PENALTY, Math.max(-10000, Math.min(10000, expander.amount(false)))));
                    break;
                case C_RULE: typesetRule(); break;
                case C_MARK:
                    expander.brace();
                    nest.append(items.make(MARK, expander.expandedList()));
                    break;
                case C_HYPHEN:
                    if (nest.isUpright()) state.fail(7);
                    nest.append(Items.A_HYPHEN);
                    break;
                case C_INSERT:
                    if (nest.mode() != VERTICAL && nest.mode() != PARAGRAPH) state.fail(7);
                    expander.brace();
                    openGroup(INSERT_GROUP);
                    nest.open(INNER);
                    break;
                case C_RAISE:
                    if (nest.isUpright()) state.fail(7);
                    await(RAISED, expander.amount(false));
                    break;
                case C_POUR: pour(expander.index()); break;
                case C_LEADERS: await(FOR_LEADERS, 0); break;
                case C_ALIGN:
                    expander.brace();
                    align.begin(tokens.readList());
                    goOnAligning();
                    break;
                case C_SHIPOUT: await(SHIPPED, 0); break;
                default:
            }
        }

        private void typesetRule() {
            int width = expander.amount(false);
            int height = expander.amount(false);
            int depth = expander.amount(false);
            nest.append(items.solid(RULE, width, height, depth));
        }

        private void pour(int n) {
            int box = state.value[BOXES + n];
            if (box == 0) return;
            if (items.kind(box) == HBOX == nest.isUpright()) state.fail(7);
            int size = items.part(box, SIZE);
            if (poured + size > MOST_POURED) state.fail(10);
            poured += size;
            for (int i = 0; i < size; i++) nest.append(items.itemAt(box, i));
            state.value[BOXES + n] = 0;
        }

        // ---- assignments

        private void assign(int p) {
            int n = 0;
            if (p <= C_LET) n = readVariable();
            if (p == C_CLASS) n = expander.codeIndex();
            if (p >= C_COUNT && p <= C_TOKS || p == C_SETBOX) n = expander.index();
            if (p >= C_CLASS && p <= C_OUTPUT || p == C_SETBOX || p >= C_HSIZE) expander.equalsSign();
            if (p == C_TOKS || p == C_OUTPUT || p == C_PATTERNS) expander.brace();
            switch (p) {
                case C_DEF: case C_EDEF:
                    int pattern = tokens.readPattern();
                    define(n, pattern, p == C_DEF ? tokens.readList() : expander.expandedList());
                    break;
                case C_LET: let(n); break;
                case C_CLASS: setClass(n, expander.amount(false)); break;
                case C_COUNT: state.set(COUNTS + n, expander.amount(false), global); break;
                case C_LEN: state.set(LENS + n, expander.amount(false), global); break;
                case C_SKIP:
                    expander.amount(true);
                    state.set(SKIPS + n, items.measure(expander.measure), global);
                    break;
                case C_TOKS: state.set(LISTS + n, tokens.readList(), global); break;
                case C_OUTPUT: state.set(OUTPUT, tokens.readList(), global); break;
                case C_ADVANCE: case C_MULTIPLY: case C_DIVIDE: calculate(p); break;
                case C_SETBOX: await(TO_REGISTER, n); break;
                case C_PATTERNS: hyphens.add(tokens.readList()); break;
                default: state.set(PARAMETERS + p - C_HSIZE, expander.amount(false), global);
            }
        }

        private int readVariable() {
            int variable = tokens.variable(tokens.takeSolid());
            if (variable < 0) state.fail(6);
            return variable;
        }

        private void define(int variable, int pattern, int body) {
            tokens.shapeBody(body);
            state.set(variable, tokens.addMacro(pattern, body), global);
        }

        private void let(int variable) {
            int t = tokens.takeSolid();
            if ((t & NAME) == 0 && (t & 127) == '=') t = tokens.takeSolid();
            state.set(variable, tokens.meaning(t), global);
        }

        private void setClass(int code, int kind) {
            if (kind < 0 || kind > TAB) state.fail(6);
            state.set(code, kind, global);
        }

        private void calculate(int p) {
            int r = tokens.command(expander.needed());
            if (r != C_COUNT && r != C_LEN && r != C_SKIP && (r < C_HSIZE || r >= COMMAND_COUNT)) state.fail(6);
            int variable = r == C_COUNT ? COUNTS + expander.index() : r == C_LEN ? LENS + expander.index()
                : r == C_SKIP ? SKIPS + expander.index() : PARAMETERS + r - C_HSIZE;
            expander.keyword("by");
            long by = expander.amount(p == C_ADVANCE && r == C_SKIP);
            int old = state.value[variable];
            long x = r == C_SKIP ? items.gluePart(old, 0) : old;
            if (p == C_DIVIDE && by == 0) state.fail(12);
            x = p == C_ADVANCE ? x + by : p == C_MULTIPLY ? x * by : by != 0 ? x / by : 0;
            if (x < -LARGEST || x > LARGEST) state.fail(5);
            state.set(variable, r == C_SKIP ? items.changed(old, (int) x) : (int) x, global);
        }

        // ---- what a caller asks

        boolean hasBox(int page) {
            return page >= -10 && page < this.page.shipped.n;
        }

        /** A page, or one of the boxes from -1 on; 0 if it is empty. */
        int boxOf(int number) {
            return number < 0 ? state.value[BOXES - 1 - number] : page.shipped.get(number);
        }
    }
}
