/**
 * Lines of words, expanded step by step: a line is read whole into a script, the script is
 * walked word by word, and what a word comes to is parted into fields. The numbered promises
 * of the document say what each public method answers.
 *
 * All rows are made with the object and used again: no call makes anything new.
 */
public final class LineExpander {
    public static final int BAD = -1, NONE = -2;

    private static final int MOST_COLLECTED = 520;
    private static final int MOST_LINE = 500;
    private static final int MOST_VARIABLES = 30;
    private static final int MOST_PARAMETERS = 20;
    private static final int MOST_USERS = 8;
    private static final int LONGEST_NAME = 8;
    private static final int LONGEST_VALUE = 300;
    private static final int LONGEST_USER_PATH = 100;
    private static final int LONGEST_WORD = 600;

    /** What a byte of a word bears; one without either is LOOSE. */
    private static final int QUOTED = 256, OWN = 512;
    /** Cells of a word that are no bytes: quotes stood here, and a BREAK. */
    private static final int QUOTES_STOOD = 1024, BREAK = 2048;

    private static final int BACKSLASH = 92, APOSTROPHE = 39, GRAVE = 96;

    private static final int TOO_MUCH = 5, LOCKED_ONE = 6;

    private final int[] bytes = new int[MOST_COLLECTED];
    private int collected;
    private int faultAt = NONE;
    private final Store store = new Store();
    private final Tree tree = new Tree();
    private final Fields fields = new Fields();
    private final Script script = new Script();
    private final Reader reader = new Reader(script);
    private final Expander expander = new Expander(script, store, tree, fields);

    public LineExpander() {
    }

    public int feed(int a, int b, int c, int d, int e) {
        if (collected + 20 > MOST_COLLECTED) {
            return BAD;
        }
        collect(a);
        collect(b);
        collect(c);
        collect(d);
        collect(e);
        return collected;
    }

    public int end(int n) {
        if (n < 0 || n > 20 || collected < 20) {
            return BAD;
        }
        collected = collected - 20 + n;
        return collected;
    }

    public int line() {
        int size = takeCollected();
        if (size > MOST_LINE || !areBytes(bytes, 0, size)) {
            return BAD;
        }
        fields.clear();
        faultAt = NONE;
        int fault = reader.read(bytes, size);
        if (fault != 0) {
            faultAt = reader.where;
            return -10 - fault;
        }
        store.begin();
        int error = expander.expand(bytes);
        if (error != 0) {
            store.undo();
            fields.clear();
            return -20 - error;
        }
        return fields.used;
    }

    public int place() {
        return faultAt;
    }

    public int field(int i) {
        return fields.has(i) ? fields.sizes[i] : BAD;
    }

    public int byteOf(int i, int k) {
        return fields.has(i) && k >= 0 && k < fields.sizes[i] ? fields.bytes[fields.starts[i] + k] : BAD;
    }

    public int message(int k) {
        int size = expander.messageSize;
        if (size < 0) {
            return BAD;
        }
        if (k == -1) {
            return size;
        }
        return k >= 0 && k < size ? expander.message[k] : BAD;
    }

    public int value() {
        int size = takeCollected();
        if (!isName(bytes, 0, size)) {
            return BAD;
        }
        int i = store.variables.find(bytes, 0, size);
        if (i < 0) {
            return NONE;
        }
        fields.clear();
        fields.addText(store.variables.texts, store.variables.textAt(i), store.variables.textSizes[i]);
        return store.variables.textSizes[i];
    }

    public int parameter() {
        int size = takeCollected();
        Table parameters = store.parameters;
        if (size > LONGEST_VALUE || parameters.isFull() || !areBytes(bytes, 0, size)) {
            return BAD;
        }
        parameters.write(parameters.append(bytes, 0, 0), bytes, 0, size);
        return parameters.used;
    }

    public int shift(int n) {
        if (n < 0 || n > store.parameters.used) {
            return BAD;
        }
        store.parameters.remove(0, n);
        return store.parameters.used;
    }

    public int mark(int what) {
        int size = takeCollected();
        if (!isName(bytes, 0, size) || what < 0 || what > 1) {
            return BAD;
        }
        return what == 0 ? unset(size) : lock(size);
    }

    public int strict(boolean is) {
        int before = store.strict ? 1 : 0;
        store.strict = is;
        return before;
    }

    public int user() {
        int size = takeCollected();
        int sign = nameEnd(bytes, 0, size);
        if (!isName(bytes, 0, sign) || sign >= size || bytes[sign] != '=') {
            return BAD;
        }
        int path = sign + 1;
        if (size - path > LONGEST_USER_PATH || !areBytes(bytes, path, size)) {
            return BAD;
        }
        int i = store.users.find(bytes, 0, sign);
        if (i < 0) {
            i = store.users.append(bytes, 0, sign);
        }
        if (i < 0) {
            return BAD;
        }
        store.users.write(i, bytes, path, size - path);
        return store.users.used;
    }

    public int make(int kind) {
        int size = takeCollected();
        if (kind < 0 || kind > 1) {
            return BAD;
        }
        return tree.grow(bytes, size, kind == 0 ? Tree.DIRECTORY : Tree.FILE) ? tree.used : BAD;
    }

    public int drop() {
        return tree.prune(bytes, takeCollected()) ? tree.used : BAD;
    }

    public int go() {
        return tree.enter(bytes, takeCollected()) ? 0 : BAD;
    }

    public int count(int what) {
        switch (what) {
            case 0: return collected;
            case 1: return store.variables.used;
            case 2: return store.parameters.used;
            case 3: return tree.used;
            case 4: return store.users.used;
            case 5: return fields.used;
            case 6: return store.locked.used;
            default: return BAD;
        }
    }

    private void collect(int four) {
        for (int i = 24; i >= 0 && collected < MOST_COLLECTED; i -= 8) {
            bytes[collected] = four >>> i & 255;
            collected++;
        }
    }

    /** The bytes stay in their row until others come, so the call can still read them. */
    private int takeCollected() {
        int size = collected;
        collected = 0;
        return size;
    }

    private int unset(int size) {
        if (store.locked.find(bytes, 0, size) >= 0) {
            return BAD;
        }
        int i = store.variables.find(bytes, 0, size);
        if (i < 0) {
            return 0;
        }
        store.variables.remove(i, 1);
        return 1;
    }

    private int lock(int size) {
        if (store.locked.find(bytes, 0, size) >= 0) {
            return 0;
        }
        return store.locked.append(bytes, 0, size) < 0 ? BAD : 1;
    }

    private static boolean isByte(int b) {
        return b == 9 || b == 10 || b >= 32 && b <= 126;
    }

    private static boolean areBytes(int[] text, int from, int to) {
        for (int i = from; i < to; i++) {
            if (!isByte(text[i])) {
                return false;
            }
        }
        return true;
    }

    private static boolean isBlank(int b) {
        return b == 9 || b == 10 || b == 32;
    }

    private static boolean isDigit(int b) {
        return b >= '0' && b <= '9';
    }

    private static boolean startsName(int b) {
        return b >= 'a' && b <= 'z' || b >= 'A' && b <= 'Z' || b == '_';
    }

    /** Where the longest run of name bytes ends that begins at a place; there itself, if none does. */
    private static int nameEnd(int[] text, int from, int to) {
        if (from >= to || !startsName(text[from])) {
            return from;
        }
        int end = from + 1;
        while (end < to && (startsName(text[end]) || isDigit(text[end]))) {
            end++;
        }
        return end;
    }

    private static boolean isName(int[] text, int from, int to) {
        return to > from && to - from <= LONGEST_NAME && nameEnd(text, from, to) == to;
    }

    /** Writes a number's digits: how many bytes. The row has room for twenty. */
    private static int writeNumber(long number, int[] out) {
        // below zero there is room for the lowest number, above it there is not
        long rest = number > 0 ? -number : number;
        int size = number < 0 ? 2 : 1;
        for (long more = rest / 10; more != 0 && size < 20; more /= 10) {
            size++;
        }
        for (int i = size - 1; i >= 0; i--) {
            out[i] = '0' - (int) (rest % 10);
            rest /= 10;
        }
        if (number < 0) {
            out[0] = '-';
        }
        return size;
    }

    /** Rows of a name and a text each; parameters have texts alone, locked names no texts. */
    private static final class Table {
        final int most, longest;
        final int[] names, nameSizes, texts, textSizes;
        int used;

        Table(int most, int longest) {
            this.most = most;
            this.longest = longest;
            names = new int[most * LONGEST_NAME];
            nameSizes = new int[most];
            texts = new int[most * longest];
            textSizes = new int[most];
        }

        boolean isFull() {
            return used >= most;
        }

        int textAt(int i) {
            return i * longest;
        }

        int find(int[] text, int from, int size) {
            for (int i = 0; i < used; i++) {
                int same = 0;
                while (same < size && nameSizes[i] == size && names[i * LONGEST_NAME + same] == text[from + same]) {
                    same++;
                }
                if (same == size && nameSizes[i] == size) {
                    return i;
                }
            }
            return NONE;
        }

        /** One more row, with a name and an empty text: its number, or NONE. */
        int append(int[] text, int from, int size) {
            if (isFull() || size > LONGEST_NAME) {
                return NONE;
            }
            System.arraycopy(text, from, names, used * LONGEST_NAME, size);
            nameSizes[used] = size;
            textSizes[used] = 0;
            used++;
            return used - 1;
        }

        void write(int i, int[] text, int from, int size) {
            if (i >= 0 && i < used && size <= longest) {
                System.arraycopy(text, from, texts, i * longest, size);
                textSizes[i] = size;
            }
        }

        void remove(int first, int many) {
            int rest = used - first - many;
            if (first < 0 || many < 0 || rest < 0) {
                return;
            }
            int from = first + many;
            System.arraycopy(names, from * LONGEST_NAME, names, first * LONGEST_NAME, rest * LONGEST_NAME);
            System.arraycopy(nameSizes, from, nameSizes, first, rest);
            System.arraycopy(texts, from * longest, texts, first * longest, rest * longest);
            System.arraycopy(textSizes, from, textSizes, first, rest);
            used -= many;
        }

        /** Becomes like another one of the same measures. */
        void become(Table other) {
            used = other.used;
            System.arraycopy(other.names, 0, names, 0, used * LONGEST_NAME);
            System.arraycopy(other.nameSizes, 0, nameSizes, 0, used);
            System.arraycopy(other.texts, 0, texts, 0, used * longest);
            System.arraycopy(other.textSizes, 0, textSizes, 0, used);
        }
    }

    /** What lines leave behind, but for the tree. */
    private static final class Store {
        private static final int[] IFS = {'I', 'F', 'S'};

        final Table variables = new Table(MOST_VARIABLES, LONGEST_VALUE);
        final Table before = new Table(MOST_VARIABLES, LONGEST_VALUE);
        final Table locked = new Table(MOST_VARIABLES, 0);
        final Table users = new Table(MOST_USERS, LONGEST_USER_PATH);
        final Table parameters = new Table(MOST_PARAMETERS, LONGEST_VALUE);
        boolean strict;
        private boolean saved;

        void begin() {
            saved = false;
        }

        /** A line that went wrong leaves nothing behind. */
        void undo() {
            if (saved) {
                variables.become(before);
                saved = false;
            }
        }

        /** A variable gets a value: 0, or the ERROR. */
        int give(int[] name, int from, int size, int[] value, int valueSize) {
            if (valueSize > LONGEST_VALUE) {
                return TOO_MUCH;
            }
            if (locked.find(name, from, size) >= 0) {
                return LOCKED_ONE;
            }
            if (!saved) {
                before.become(variables);
                saved = true;
            }
            int i = variables.find(name, from, size);
            if (i < 0) {
                i = variables.append(name, from, size);
            }
            if (i < 0) {
                return TOO_MUCH;
            }
            variables.write(i, value, 0, valueSize);
            return 0;
        }

        int findIfs() {
            return variables.find(IFS, 0, IFS.length);
        }

        /** The byte that joins the parameters by @ or *, or NONE. */
        int joint(int key) {
            int i = key == '@' ? NONE : variables.find(IFS, 0, IFS.length);
            if (i < 0) {
                return 32;
            }
            return variables.textSizes[i] == 0 ? NONE : variables.texts[variables.textAt(i)];
        }

        int joinedSize(int key) {
            int size = joint(key) < 0 ? 0 : Math.max(0, parameters.used - 1);
            for (int i = 0; i < parameters.used; i++) {
                size += parameters.textSizes[i];
            }
            return size;
        }
    }

    /** Directories and files; number 0 is the root. */
    private static final class Tree {
        static final int FREE = 0, DIRECTORY = 1, FILE = 2;
        static final int MOST = 80, LONGEST = 10;

        final int[] names = new int[MOST * LONGEST];
        final int[] nameSizes = new int[MOST];
        final int[] parents = new int[MOST];
        final int[] kinds = new int[MOST];
        int used = 1;
        int current;

        Tree() {
            kinds[0] = DIRECTORY;
        }

        boolean grow(int[] path, int size, int kind) {
            int slash = lastSlash(path, size);
            int directory = slash < 0 ? NONE : walk(path, slash);
            if (directory < 0 || kinds[directory] != DIRECTORY || !isTreeName(path, slash + 1, size)) {
                return false;
            }
            int place = free();
            if (place < 0 || child(directory, path, slash + 1, size) >= 0) {
                return false;
            }
            nameSizes[place] = size - slash - 1;
            System.arraycopy(path, slash + 1, names, place * LONGEST, nameSizes[place]);
            parents[place] = directory;
            kinds[place] = kind;
            used++;
            return true;
        }

        boolean prune(int[] path, int size) {
            int node = walk(path, size);
            if (node <= 0 || node == current || hasChildren(node)) {
                return false;
            }
            kinds[node] = FREE;
            used--;
            return true;
        }

        boolean enter(int[] path, int size) {
            int node = size == 1 && path[0] == '/' ? 0 : walk(path, size);
            if (size == 0 || node < 0 || kinds[node] != DIRECTORY) {
                return false;
            }
            current = node;
            return true;
        }

        /** Where a path of names leads, each with a / before it (the root, without any), or NONE. */
        private int walk(int[] path, int size) {
            int node = 0;
            int at = 0;
            while (at < size && node >= 0) {
                int end = at + 1;
                while (end < size && path[end] != '/') {
                    end++;
                }
                node = path[at] == '/' && isTreeName(path, at + 1, end) ? child(node, path, at + 1, end) : NONE;
                at = end;
            }
            return node;
        }

        private int child(int directory, int[] text, int from, int to) {
            for (int i = 1; i < MOST; i++) {
                int same = 0;
                if (kinds[i] != FREE && parents[i] == directory && nameSizes[i] == to - from) {
                    while (same < to - from && names[i * LONGEST + same] == text[from + same]) {
                        same++;
                    }
                    if (same == to - from) {
                        return i;
                    }
                }
            }
            return NONE;
        }

        private boolean hasChildren(int node) {
            for (int i = 1; i < MOST; i++) {
                if (kinds[i] != FREE && parents[i] == node) {
                    return true;
                }
            }
            return false;
        }

        private int free() {
            for (int i = 1; i < MOST; i++) {
                if (kinds[i] == FREE) {
                    return i;
                }
            }
            return NONE;
        }

        private static int lastSlash(int[] path, int size) {
            int at = size - 1;
            while (at >= 0 && path[at] != '/') {
                at--;
            }
            return at;
        }

        private static boolean isTreeName(int[] text, int from, int to) {
            int size = to - from;
            if (size < 1 || size > LONGEST || !areBytes(text, from, to)) {
                return false;
            }
            boolean dots = text[from] == '.' && (size == 1 || size == 2 && text[from + 1] == '.');
            return !dots;
        }
    }

    /** The fields at hand. */
    private static final class Fields {
        static final int MOST = 64, MOST_BYTES = 2000;

        final int[] bytes = new int[MOST_BYTES];
        final int[] starts = new int[MOST];
        final int[] sizes = new int[MOST];
        int used;
        private int filled;

        void clear() {
            used = 0;
            filled = 0;
        }

        boolean has(int i) {
            return i >= 0 && i < used;
        }

        /** Begins one more field, which has no bytes yet: false, if there can't be more. */
        boolean open() {
            if (used >= MOST) {
                return false;
            }
            starts[used] = filled;
            sizes[used] = 0;
            used++;
            return true;
        }

        /** The last field gets bytes, of which only the byte itself counts: false, if there can't be more. */
        boolean write(int[] cells, int from, int size) {
            if (used == 0 || size > MOST_BYTES - filled) {
                return false;
            }
            for (int i = 0; i < size; i++) {
                bytes[filled] = cells[from + i] & 255;
                filled++;
            }
            sizes[used - 1] += size;
            return true;
        }

        boolean addText(int[] cells, int from, int size) {
            return open() && write(cells, from, size);
        }

        /** Puts the fields from one on into the order of their bytes. */
        void sortFrom(int first) {
            for (int i = first + 1; i < used; i++) {
                int start = starts[i];
                int size = sizes[i];
                int at = i;
                while (at > first && isBefore(start, size, at - 1)) {
                    starts[at] = starts[at - 1];
                    sizes[at] = sizes[at - 1];
                    at--;
                }
                starts[at] = start;
                sizes[at] = size;
            }
        }

        private boolean isBefore(int start, int size, int other) {
            int shared = Math.min(size, sizes[other]);
            for (int k = 0; k < shared; k++) {
                int difference = bytes[start + k] - bytes[starts[other] + k];
                if (difference != 0) {
                    return difference < 0;
                }
            }
            return size < sizes[other];
        }
    }

    /** A line that was read: what its words are made of, one item behind the other. */
    private static final class Script {
        /** A byte; quotes that stood there; a value; how many; a FORM with its w; REACHES. */
        static final int CELL = 0, QUOTES = 1, KEY = 2, LENGTH = 3, FORM = 4, FORM_END = 5, REACH = 6, REACH_END = 7;
        /** The key of an item that is a NAME; another one is its number or sign. */
        static final int NAME = 0;
        /** How a FORM is written, beside its sign and QUOTED. */
        static final int COLON = 4096, DOUBLE = 8192;

        final int[] kinds = new int[MOST_LINE + 1];
        /** A CELL's cell, or the KEY. */
        final int[] keys = new int[MOST_LINE + 1];
        /** Where a NAME stands in the line. */
        final int[] starts = new int[MOST_LINE + 1];
        final int[] sizes = new int[MOST_LINE + 1];
        final int[] hows = new int[MOST_LINE + 1];
        /** From a FORM to its end and back; of QUOTES 1, if nothing but parameters by @ is in them. */
        final int[] links = new int[MOST_LINE + 1];
        final int[] wordStarts = new int[MOST_LINE + 1];
        final int[] wordEnds = new int[MOST_LINE + 1];
        int items;
        int words;
        private boolean inWord;

        void clear() {
            items = 0;
            words = 0;
            inWord = false;
        }

        /** One more item; with the first one a word begins. An item comes of a byte at least, so there is room. */
        int add(int kind, int key, int how) {
            int item = Math.min(items, MOST_LINE);
            if (!inWord) {
                wordStarts[words] = item;
                inWord = true;
            }
            kinds[item] = kind;
            keys[item] = key;
            hows[item] = how;
            links[item] = 0;
            items = item + 1;
            return item;
        }

        void endWord() {
            if (inWord && words < MOST_LINE) {
                wordEnds[words] = items;
                words++;
                inWord = false;
            }
        }
    }

    /** Reads a line into the script, up to its first fault. */
    private static final class Reader {
        static final int MOST_FORMS = 6;
        /** FORMS and REACHES, and quotes in and around them, and the line itself. */
        static final int MOST_OPEN = 2 * MOST_FORMS + 2;
        /** What is open: in WORDS and a LOOSE_W is read out of " ", in the others as within them. */
        static final int WORDS = 0, LOOSE_W = 1, IN_QUOTES = 2, QUOTED_W = 3, IN_REACH = 4;

        private final Script script;
        private int[] text = new int[0];
        private int size;
        private int at;
        private final int[] modes = new int[MOST_OPEN];
        private final int[] openedAt = new int[MOST_OPEN];
        private final int[] openedBy = new int[MOST_OPEN];
        private final int[] brackets = new int[MOST_OPEN];
        private int depth;
        private int forms;
        private int fault;
        int where;

        Reader(Script script) {
            this.script = script;
        }

        /** 0, or the first fault. */
        int read(int[] line, int lineSize) {
            text = line;
            size = lineSize;
            at = 0;
            depth = 0;
            forms = 0;
            fault = 0;
            where = NONE;
            modes[0] = WORDS;
            script.clear();
            for (int steps = 0; steps < lineSize && at < size && fault == 0; steps++) {
                readOne(text[at], modes[depth]);
            }
            if (fault == 0) {
                readEnd();
            }
            return fault;
        }

        private void readOne(int b, int mode) {
            if (b == GRAVE) {
                fail(2, at);
            } else if (b == '$') {
                readDollar(byteAt(at + 1));
            } else if (mode == WORDS || mode == LOOSE_W) {
                readOut(b, mode);
            } else {
                readWithin(b, mode);
            }
        }

        private void readEnd() {
            if (depth == 0) {
                script.endWord();
            } else if (modes[depth] == IN_QUOTES) {
                fail(1, openedAt[depth]);
            } else {
                fail(3, size);
            }
        }

        private void readOut(int b, int mode) {
            if (b == BACKSLASH) {
                readEscape();
            } else if (b == APOSTROPHE) {
                readApostrophes();
            } else if (b == '"') {
                open(IN_QUOTES, script.add(Script.QUOTES, 0, 0), at + 1);
            } else if (mode == WORDS && isBlank(b)) {
                script.endWord();
                at++;
            } else if (mode == LOOSE_W && b == '}') {
                closeForm();
            } else {
                putByte(b);
            }
        }

        private void readWithin(int b, int mode) {
            int next = byteAt(at + 1);
            if (b == BACKSLASH && (next == '$' || next == '"' || next == BACKSLASH || next == GRAVE || next == 10)) {
                readEscape();
            } else if (b == '"' && mode == IN_QUOTES) {
                closeQuotes();
            } else if (b == '"') {
                fail(3, at);
            } else if (b == '}' && mode == QUOTED_W) {
                closeForm();
            } else if (b == ')' && mode == IN_REACH && brackets[depth] == 0) {
                closeReach(next);
            } else {
                if (mode == IN_REACH) {
                    brackets[depth] += b == '(' ? 1 : b == ')' ? -1 : 0;
                }
                putByte(b);
            }
        }

        private void readEscape() {
            if (at + 1 >= size) {
                fail(1, at);
                return;
            }
            if (text[at + 1] != 10) {
                script.add(Script.CELL, text[at + 1] | QUOTED, 0);
            }
            at += 2;
        }

        private void readApostrophes() {
            int end = at + 1;
            while (end < size && text[end] != APOSTROPHE) {
                end++;
            }
            if (end >= size) {
                fail(1, at);
                return;
            }
            script.add(Script.QUOTES, 0, 0);
            for (int i = at + 1; i < end; i++) {
                script.add(Script.CELL, text[i] | QUOTED, 0);
            }
            at = end + 1;
        }

        private void readDollar(int next) {
            if (startsName(next)) {
                int end = nameEnd(text, at + 1, size);
                if (end - at - 1 > LONGEST_NAME) {
                    fail(3, at + 1 + LONGEST_NAME);
                } else {
                    addKey(Script.KEY, at + 1, end, quotedHere());
                    at = end;
                }
            } else if (next >= '1' && next <= '9' || next == '@' || next == '*' || next == '#') {
                addKey(Script.KEY, at + 1, at + 2, quotedHere());
                at += 2;
            } else if (next == '(' && byteAt(at + 2) != '(') {
                fail(2, at);
            } else if ((next == '{' || next == '(') && forms >= MOST_FORMS) {
                fail(4, at);
            } else if (next == '{') {
                readForm(at + 2);
            } else if (next == '(') {
                forms++;
                open(IN_REACH, script.add(Script.REACH, 0, quotedHere()), at + 3);
            } else {
                putByte('$');
            }
        }

        /** What is behind ${ up to the byte that begins w, or behind the }. */
        private void readForm(int key) {
            int lengthEnd = byteAt(key) == '#' ? keyEnd(key + 1) : NONE;
            if (lengthEnd >= 0 && byteAt(lengthEnd) == '}') {
                addKey(Script.LENGTH, key + 1, lengthEnd, quotedHere());
                at = lengthEnd + 1;
                return;
            }
            int end = keyEnd(key);
            if (end < 0) {
                fail(3, startsName(byteAt(key)) ? key + LONGEST_NAME : key);
                return;
            }
            boolean colon = byteAt(end) == ':';
            int sign = colon ? end + 1 : end;
            int b = byteAt(sign);
            boolean many = text[key] == '@' || text[key] == '*';
            if (b == '}' && !colon) {
                addKey(Script.KEY, key, end, quotedHere());
                at = sign + 1;
            } else if (b == '-' || b == '=' || b == '?' || b == '+') {
                int item = addKey(Script.FORM, key, end, b | quotedHere() | (colon ? Script.COLON : 0));
                forms++;
                open(quotedHere() != 0 ? QUOTED_W : LOOSE_W, item, sign + 1);
            } else if ((b == '#' || b == '%') && !colon && !many) {
                boolean twice = byteAt(sign + 1) == b;
                int item = addKey(Script.FORM, key, end, b | quotedHere() | (twice ? Script.DOUBLE : 0));
                forms++;
                open(LOOSE_W, item, twice ? sign + 2 : sign + 1);
            } else {
                fail(3, sign);
            }
        }

        /** Where the KEY ends that begins at a place, or NONE, if none does. */
        private int keyEnd(int key) {
            int b = byteAt(key);
            if (startsName(b)) {
                int end = nameEnd(text, key, size);
                return end - key > LONGEST_NAME ? NONE : end;
            }
            if (b == '@' || b == '*' || b == '#') {
                return key + 1;
            }
            int end = isDigit(byteAt(key + 1)) ? key + 2 : key + 1;
            int number = isDigit(b) ? numberAt(key, end) : 0;
            return number < 1 || number > MOST_PARAMETERS ? NONE : end;
        }

        private int numberAt(int from, int to) {
            int number = 0;
            for (int i = from; i < to; i++) {
                number = number * 10 + text[i] - '0';
            }
            return number;
        }

        private int addKey(int kind, int from, int to, int how) {
            int b = text[from];
            int key = startsName(b) ? Script.NAME : isDigit(b) ? numberAt(from, to) : b;
            int item = script.add(kind, key, how);
            script.starts[item] = from;
            script.sizes[item] = to - from;
            return item;
        }

        private void open(int mode, int item, int next) {
            if (depth + 1 < MOST_OPEN) {
                depth++;
            }
            modes[depth] = mode;
            openedAt[depth] = at;
            openedBy[depth] = item;
            brackets[depth] = 0;
            at = next;
        }

        private void closeQuotes() {
            int first = openedBy[depth];
            int i = first + 1;
            while (i < script.items && script.kinds[i] == Script.KEY && script.keys[i] == '@') {
                i++;
            }
            script.links[first] = i == script.items && i > first + 1 ? 1 : 0;
            depth--;
            at++;
        }

        private void closeForm() {
            closeWith(Script.FORM_END);
            at++;
        }

        private void closeReach(int next) {
            if (next != ')') {
                fail(3, at + 1);
                return;
            }
            closeWith(Script.REACH_END);
            at += 2;
        }

        private void closeWith(int kind) {
            int first = openedBy[depth];
            int last = script.add(kind, 0, 0);
            script.links[first] = last;
            script.links[last] = first;
            depth--;
            forms--;
        }

        private void putByte(int b) {
            script.add(Script.CELL, b | (depth == 0 ? OWN : quotedHere()), 0);
            at++;
        }

        private int quotedHere() {
            return modes[depth] == WORDS || modes[depth] == LOOSE_W ? 0 : QUOTED;
        }

        /** A byte of the line; 0, which is none, behind its end. */
        private int byteAt(int i) {
            return i < size ? text[i] : 0;
        }

        private void fail(int number, int place) {
            fault = number;
            where = place;
        }
    }

    /** What a word, a w or REACHES come to: cells, of which not all are bytes. */
    private static final class Row {
        final int[] cells;
        /** The value that LESS takes, as it was before its w was expanded. */
        final int[] kept = new int[LONGEST_VALUE];
        int keptSize;
        int size;
        boolean breaks;
        private int filled;
        private int limit;

        Row(int room) {
            cells = new int[Math.max(0, room)];
        }

        void start(int most, boolean withBreaks) {
            size = 0;
            filled = 0;
            keptSize = 0;
            limit = most;
            breaks = withBreaks;
        }

        /** One more cell: false, if there are too many bytes then. */
        boolean add(int cell) {
            if (size >= cells.length || cell < QUOTES_STOOD && filled >= limit) {
                return false;
            }
            // a second sign of quotes right behind one tells nothing new, and so the room is enough
            if (cell != QUOTES_STOOD || size == 0 || cells[size - 1] != QUOTES_STOOD) {
                cells[size] = cell;
                size++;
            }
            filled += cell < QUOTES_STOOD ? 1 : 0;
            return true;
        }

        /** Writes the bytes alone, as many as there is room for: how many. */
        int flatten(int[] out) {
            int written = 0;
            for (int i = 0; i < size && written < out.length; i++) {
                if (cells[i] < QUOTES_STOOD) {
                    out[written] = cells[i] & 255;
                    written++;
                }
            }
            return written;
        }
    }

    /** Expands the words of the script one behind the other. */
    private static final class Expander {
        static final int NOT_SET = 1, HAS_MESSAGE = 2, NO_NAME = 3;
        /** A line has 250 times $@ at most, each with 19 breaks; beside each break or byte quotes may stand. */
        static final int WORD_ROOM = 2 * (LONGEST_WORD + MOST_LINE / 2 * (MOST_PARAMETERS - 1)) + 2;
        static final int W_ROOM = 2 * LONGEST_WORD + 2;
        /** What a cell is for parting. */
        static final int CONTENT = 0, WHITE = 1, HARD = 2, BROKEN = 3;
        private static final int[] HOME = {'H', 'O', 'M', 'E'};

        private final Script script;
        private final Store store;
        private final Pattern pattern = new Pattern();
        private final Paths paths;
        private final Reckoner reckoner;
        private final Row[] rows = new Row[Reader.MOST_FORMS + 1];
        private int level;
        private int error;
        private int[] text = new int[0];
        /** HOME as it is when a word's tildes come; its size is below 0, if it is not set. */
        private final int[] home = new int[LONGEST_VALUE];
        private int homeSize;
        private final int[] name = new int[LONGEST_NAME];
        private int nameSize;
        private final int[] flat = new int[LONGEST_VALUE];
        /** The bytes of IFS below 64, and those from 64 on. */
        private long partingLow;
        private long partingHigh;
        final int[] message = new int[LONGEST_VALUE];
        int messageSize = NONE;

        Expander(Script script, Store store, Tree tree, Fields fields) {
            this.script = script;
            this.store = store;
            paths = new Paths(tree, fields, pattern);
            reckoner = new Reckoner(store);
            for (int i = 0; i < rows.length; i++) {
                rows[i] = new Row(i == 0 ? WORD_ROOM : W_ROOM);
            }
        }

        /** 0, or the ERROR that ends the line. */
        int expand(int[] line) {
            text = line;
            error = 0;
            boolean settings = true;
            for (int w = 0; w < script.words && error == 0; w++) {
                int from = script.wordStarts[w];
                int to = script.wordEnds[w];
                int sign = settings ? settingSign(from, to) : NONE;
                settings = sign >= 0;
                level = 0;
                noteHome();
                if (settings) {
                    rows[0].start(LONGEST_VALUE, false);
                    walk(sign + 1, to, true);
                    finishSetting();
                } else {
                    rows[0].start(LONGEST_WORD, true);
                    walk(from, to, false);
                    part(rows[0]);
                }
            }
            return error;
        }

        /** The item that is a setting's = , or NONE; the NAME before it is noted. */
        private int settingSign(int from, int to) {
            nameSize = 0;
            for (int i = from; i < to; i++) {
                int b = ownByte(i);
                if (b == '=') {
                    return isName(name, 0, nameSize) ? i : NONE;
                }
                if (b < 0 || nameSize >= LONGEST_NAME) {
                    return NONE;
                }
                name[nameSize] = b;
                nameSize++;
            }
            return NONE;
        }

        /** The byte of an item that is one of the line itself, not quoted nor within a w, or NONE. */
        private int ownByte(int i) {
            return script.kinds[i] == Script.CELL && (script.keys[i] & OWN) != 0 ? script.keys[i] & 255 : NONE;
        }

        private void finishSetting() {
            if (error == 0) {
                int size = rows[0].flatten(flat);
                error = store.give(name, 0, nameSize, flat, size);
            }
        }

        private void noteHome() {
            int i = store.variables.find(HOME, 0, HOME.length);
            homeSize = i < 0 ? NONE : store.variables.textSizes[i];
            if (i >= 0) {
                System.arraycopy(store.variables.texts, store.variables.textAt(i), home, 0, homeSize);
            }
        }

        private void walk(int from, int to, boolean setting) {
            int next = from;
            for (int i = from; i < to && error == 0; i = Math.max(i + 1, next)) {
                next = i + 1;
                switch (script.kinds[i]) {
                    case Script.CELL:
                        next = addCell(i, from, to, setting);
                        break;
                    case Script.QUOTES:
                        if (script.links[i] == 0 || store.parameters.used > 0) {
                            add(QUOTES_STOOD);
                        }
                        break;
                    case Script.KEY:
                        if (isThereOrFine(i)) {
                            addValue(i);
                        }
                        break;
                    case Script.LENGTH:
                        addLength(i);
                        break;
                    case Script.FORM:
                        next = openForm(i);
                        break;
                    case Script.FORM_END:
                        closeForm(script.links[i]);
                        break;
                    case Script.REACH:
                        openRow(LONGEST_VALUE);
                        break;
                    default:
                        error = reckoner.reckon(closeRow());
                        addNumber(reckoner.result, script.hows[script.links[i]] & QUOTED);
                        break;
                }
            }
        }

        private void add(int cell) {
            if (!rows[level].add(cell)) {
                error = TOO_MUCH;
            }
        }

        private void addBytes(int[] from, int at, int size, int flag) {
            Row row = rows[level];
            for (int i = 0; i < size && error == 0; i++) {
                if (!row.add(from[at + i] | flag)) {
                    error = TOO_MUCH;
                }
            }
        }

        private void addNumber(long number, int flag) {
            addBytes(flat, 0, writeNumber(number, flat), flag);
        }

        /** Puts a byte, or what a tilde there gives: the item behind what was used up. */
        private int addCell(int i, int from, int to, boolean setting) {
            boolean spot = i == from || setting && ownByte(i - 1) == ':';
            int end = spot && ownByte(i) == '~' ? tildeEnd(i, to, setting) : NONE;
            int size = end - i - 1;
            int user = size > 0 ? store.users.find(flat, 0, size) : NONE;
            if (size == 0 && homeSize >= 0) {
                addBytes(home, 0, homeSize, QUOTED);
                return end;
            }
            if (user >= 0) {
                addBytes(store.users.texts, store.users.textAt(user), store.users.textSizes[user], QUOTED);
                return end;
            }
            add(script.keys[i]);
            return i + 1;
        }

        /** Where what belongs to a ~ ends, or NONE, if it can't be a user's NAME; else that is noted. */
        private int tildeEnd(int i, int to, boolean setting) {
            for (int end = i + 1; end < to; end++) {
                int b = ownByte(end);
                if (b == '/' || setting && b == ':') {
                    return end;
                }
                int size = end - i - 1;
                if (b < 0 || size >= LONGEST_NAME) {
                    return NONE;
                }
                flat[size] = b;
            }
            return to;
        }

        private boolean isSet(int i) {
            int key = script.keys[i];
            if (key == Script.NAME) {
                return store.variables.find(text, script.starts[i], script.sizes[i]) >= 0;
            }
            return key == '#' || (isMany(key) ? 1 : key) <= store.parameters.used;
        }

        private static boolean isMany(int key) {
            return key == '@' || key == '*';
        }

        /** Whether what is set has no bytes. */
        private boolean isEmpty(int i) {
            int key = script.keys[i];
            if (!isMany(key)) {
                return writeValue(i, flat) == 0;
            }
            int size = store.joinedSize(key);
            if (size > LONGEST_VALUE) {
                error = TOO_MUCH;
            }
            return size == 0;
        }

        /** False, if a KEY is not set and STRICT is told. */
        private boolean isThereOrFine(int i) {
            if (store.strict && !isMany(script.keys[i]) && !isSet(i)) {
                error = NOT_SET;
            }
            return error == 0;
        }

        /** Writes the value of a KEY that is not @ nor * : how many bytes. */
        private int writeValue(int i, int[] out) {
            int key = script.keys[i];
            if (key == '#') {
                return writeNumber(store.parameters.used, out);
            }
            Table table = key == Script.NAME ? store.variables : store.parameters;
            int row = key == Script.NAME ? table.find(text, script.starts[i], script.sizes[i]) : key - 1;
            if (row < 0 || row >= table.used) {
                return 0;
            }
            System.arraycopy(table.texts, table.textAt(row), out, 0, table.textSizes[row]);
            return table.textSizes[row];
        }

        private void addValue(int i) {
            int key = script.keys[i];
            int flag = script.hows[i] & QUOTED;
            if (!isMany(key)) {
                addBytes(flat, 0, writeValue(i, flat), flag);
            } else if (rows[level].breaks && (key == '@' || flag == 0)) {
                addParted(flag);
            } else if (store.joinedSize(key) > LONGEST_VALUE) {
                error = TOO_MUCH;
            } else {
                addJoined(store.joint(key), flag);
            }
        }

        private void addParted(int flag) {
            Table parameters = store.parameters;
            for (int p = 0; p < parameters.used && error == 0; p++) {
                if (p > 0) {
                    add(BREAK);
                }
                if (flag != 0) {
                    add(QUOTES_STOOD);
                }
                addBytes(parameters.texts, parameters.textAt(p), parameters.textSizes[p], flag);
            }
        }

        private void addJoined(int joint, int flag) {
            Table parameters = store.parameters;
            for (int p = 0; p < parameters.used && error == 0; p++) {
                if (p > 0 && joint >= 0) {
                    add(joint | flag);
                }
                addBytes(parameters.texts, parameters.textAt(p), parameters.textSizes[p], flag);
            }
        }

        private void addLength(int i) {
            if (isThereOrFine(i)) {
                int size = isMany(script.keys[i]) ? store.parameters.used : writeValue(i, flat);
                addNumber(size, script.hows[i] & QUOTED);
            }
        }

        /** Goes into a w, or puts what comes without it: the item to go on with. */
        private int openForm(int i) {
            int sign = script.hows[i] & 255;
            if (sign == '#' || sign == '%') {
                if (isThereOrFine(i)) {
                    openRow(LONGEST_WORD);
                    rows[level].keptSize = writeValue(i, rows[level].kept);
                }
                return i + 1;
            }
            boolean stands = isSet(i) && !((script.hows[i] & Script.COLON) != 0 && isEmpty(i));
            if (error != 0) {
                return i + 1;
            }
            if (stands != (sign == '+')) {
                if (stands) {
                    addValue(i);
                }
                return script.links[i] + 1;
            }
            if (sign == '=' && script.keys[i] != Script.NAME) {
                error = NO_NAME;
            } else if (sign == '=' || sign == '?') {
                openRow(LONGEST_VALUE);
            }
            return i + 1;
        }

        private void closeForm(int first) {
            int sign = script.hows[first] & 255;
            if (sign == '=') {
                closeGiving(first);
            } else if (sign == '?') {
                messageSize = closeRow().flatten(message);
                error = HAS_MESSAGE;
            } else if (sign == '#' || sign == '%') {
                closeLess(first, sign);
            }
        }

        private void closeGiving(int first) {
            Row row = closeRow();
            int size = row.flatten(flat);
            error = store.give(text, script.starts[first], script.sizes[first], flat, size);
            for (int i = 0; i < row.size && error == 0; i++) {
                add(row.cells[i]);
            }
        }

        private void closeLess(int first, int sign) {
            Row row = closeRow();
            boolean longest = (script.hows[first] & Script.DOUBLE) != 0;
            int flag = script.hows[first] & QUOTED;
            pattern.compile(row.cells, 0, row.size);
            if (sign == '#') {
                int gone = pattern.beginning(row.kept, row.keptSize, longest);
                addBytes(row.kept, gone, row.keptSize - gone, flag);
            } else {
                addBytes(row.kept, 0, row.keptSize - pattern.ending(row.kept, row.keptSize, longest), flag);
            }
        }

        private void openRow(int limit) {
            if (level + 1 < rows.length) {
                level++;
            }
            rows[level].start(limit, false);
        }

        private Row closeRow() {
            Row row = rows[level];
            if (level > 0) {
                level--;
            }
            return row;
        }

        private void part(Row row) {
            if (error != 0) {
                return;
            }
            readIfs();
            paths.clear();
            int next = 0;
            for (int i = 0; i < row.size && error == 0; i = Math.max(i + 1, next)) {
                int kind = seam(row, i);
                if (kind == CONTENT) {
                    paths.add(row.cells[i]);
                } else {
                    next = behindWhite(row, i);
                    kind = seam(row, next);
                    next = kind == HARD || kind == BROKEN ? behindWhite(row, next + 1) : next;
                    error = paths.take(kind == HARD);
                }
            }
            if (error == 0) {
                error = paths.take(false);
            }
        }

        private void readIfs() {
            int ifs = store.findIfs();
            partingLow = ifs < 0 ? 1L << 9 | 1L << 10 | 1L << 32 : 0;
            partingHigh = 0;
            int size = ifs < 0 ? 0 : store.variables.textSizes[ifs];
            for (int k = 0; k < size; k++) {
                int b = store.variables.texts[store.variables.textAt(ifs) + k];
                partingLow |= b < 64 ? 1L << b : 0;
                partingHigh |= b < 64 ? 0 : 1L << b - 64;
            }
        }

        private int seam(Row row, int i) {
            int cell = i < row.size ? row.cells[i] : QUOTED;
            if (cell >= QUOTED) {
                return cell == BREAK ? BROKEN : CONTENT;
            }
            boolean parts = ((cell < 64 ? partingLow >>> cell : partingHigh >>> cell - 64) & 1) != 0;
            return !parts ? CONTENT : isBlank(cell) ? WHITE : HARD;
        }

        private int behindWhite(Row row, int from) {
            int i = from;
            while (i < row.size && seam(row, i) == WHITE) {
                i++;
            }
            return i;
        }
    }

    /** A PATTERN, for which all beginnings or endings of a text are tried at once. */
    private static final class Pattern {
        static final int ONE = 0, ANY = 1, MANY = 2, SET = 3;

        private final int[] cells = new int[LONGEST_WORD];
        private int size;
        private final int[] kinds = new int[LONGEST_WORD];
        private final int[] bytes = new int[LONGEST_WORD];
        /** The bytes of a SET below 64, and those from 64 on. */
        private final long[] lows = new long[LONGEST_WORD];
        private final long[] highs = new long[LONGEST_WORD];
        private int parts;
        private final boolean[] reached = new boolean[LONGEST_VALUE + 1];

        void compile(int[] source, int from, int to) {
            copyBytes(source, from, to);
            parts = 0;
            int next = 0;
            for (int i = 0; i < size; i = next) {
                int end = isSign(i, '[') ? setEnd(i + 1) : NONE;
                bytes[parts] = cells[i] & 255;
                kinds[parts] = isSign(i, '*') ? MANY : isSign(i, '?') ? ANY : end > i ? SET : ONE;
                if (end > i) {
                    readSet(i + 1, end);
                }
                parts++;
                next = Math.max(i, end) + 1;
            }
        }

        private void copyBytes(int[] source, int from, int to) {
            size = 0;
            for (int i = from; i < to && size < LONGEST_WORD; i++) {
                if (source[i] < QUOTES_STOOD) {
                    cells[size] = source[i];
                    size++;
                }
            }
        }

        boolean matches(int[] text, int from, int length) {
            if (length > LONGEST_VALUE) {
                return false;
            }
            reachForward(text, from, length);
            return reached[length];
        }

        /** How many bytes the shortest or longest beginning has that matches; 0, if none does. */
        int beginning(int[] text, int length, boolean longest) {
            reachForward(text, 0, length);
            int found = 0;
            for (int end = length; end >= 0; end--) {
                if (reached[end]) {
                    found = end;
                    if (longest) {
                        return found;
                    }
                }
            }
            return found;
        }

        /** Likewise an ending. */
        int ending(int[] text, int length, boolean longest) {
            reachBackward(text, length);
            int found = 0;
            for (int start = 0; start <= length; start++) {
                if (reached[start]) {
                    found = length - start;
                    if (longest) {
                        return found;
                    }
                }
            }
            return found;
        }

        /** Then reached tells of each place, whether the bytes before it match the whole pattern. */
        private void reachForward(int[] text, int from, int length) {
            for (int i = 0; i <= length; i++) {
                reached[i] = i == 0;
            }
            for (int p = 0; p < parts; p++) {
                if (kinds[p] == MANY) {
                    for (int i = 1; i <= length; i++) {
                        reached[i] |= reached[i - 1];
                    }
                } else {
                    for (int i = length; i > 0; i--) {
                        reached[i] = reached[i - 1] && fits(p, text[from + i - 1]);
                    }
                    reached[0] = false;
                }
            }
        }

        /** Then reached tells of each place, whether the bytes from it on match the whole pattern. */
        private void reachBackward(int[] text, int length) {
            for (int i = 0; i <= length; i++) {
                reached[i] = i == length;
            }
            for (int p = parts - 1; p >= 0; p--) {
                if (kinds[p] == MANY) {
                    for (int i = length - 1; i >= 0; i--) {
                        reached[i] |= reached[i + 1];
                    }
                } else {
                    for (int i = 0; i < length; i++) {
                        reached[i] = reached[i + 1] && fits(p, text[i]);
                    }
                    reached[length] = false;
                }
            }
        }

        private boolean fits(int part, int b) {
            switch (kinds[part]) {
                case ONE: return bytes[part] == b;
                case SET: return ((b < 64 ? lows[part] >>> b : highs[part] >>> b - 64) & 1) != 0;
                default: return true;
            }
        }

        /** The ] that ends a set, or NONE: one right at its beginning is a byte like others. */
        private int setEnd(int from) {
            int first = isSign(from, '!') ? from + 1 : from;
            for (int i = first + 1; i < size; i++) {
                if (isSign(i, ']')) {
                    return i;
                }
            }
            return NONE;
        }

        private void readSet(int from, int end) {
            boolean none = isSign(from, '!');
            long low = 0;
            long high = 0;
            int i = none ? from + 1 : from;
            while (i < end) {
                boolean range = i + 2 < end && isSign(i + 1, '-');
                int last = cells[range ? i + 2 : i] & 255;
                for (int b = cells[i] & 255; b <= last; b++) {
                    low |= b < 64 ? 1L << b : 0;
                    high |= b < 64 ? 0 : 1L << b - 64;
                }
                i += range ? 3 : 1;
            }
            lows[parts] = none ? ~low : low;
            highs[parts] = none ? ~high : high;
        }

        private boolean isSign(int i, int b) {
            return i < size && (cells[i] & QUOTED) == 0 && (cells[i] & 255) == b;
        }
    }

    /** Takes the fields of a word and puts paths of the tree in the place of patterns. */
    private static final class Paths {
        static final int MOST_PARTS = LONGEST_WORD + 1;
        /** A set of what the tree has goes into so many ints. */
        static final int INTS = (Tree.MOST + 31) / 32;
        /** What a part does: one of the names that it matches, the same directory, the one above. */
        static final int NAMES = 0, STAY = 1, UP = 2;
        /** Far above what 64 fields need, as each step down leads to a path. */
        static final int MOST_STEPS = 1000000;

        private final Tree tree;
        private final Fields fields;
        private final Pattern pattern;
        private final int[] cells = new int[LONGEST_WORD];
        private int size;
        private boolean quotes;
        private boolean signs;
        private final int[] starts = new int[MOST_PARTS];
        private final int[] ends = new int[MOST_PARTS];
        private final int[] kinds = new int[MOST_PARTS];
        private int parts;
        /** Of each part the names that it matches, and the directories from where the rest leads to a path. */
        private final int[] matching = new int[MOST_PARTS * INTS];
        private final int[] leading = new int[MOST_PARTS * INTS];
        private final int[] from = new int[MOST_PARTS];
        private final int[] picks = new int[MOST_PARTS];

        Paths(Tree tree, Fields fields, Pattern pattern) {
            this.tree = tree;
            this.fields = fields;
            this.pattern = pattern;
        }

        void clear() {
            size = 0;
            quotes = false;
            signs = false;
        }

        void add(int cell) {
            if (cell == QUOTES_STOOD) {
                quotes = true;
            } else if (size < LONGEST_WORD) {
                int b = cell & 255;
                signs |= (cell & QUOTED) == 0 && (b == '*' || b == '?' || b == '[');
                cells[size] = cell;
                size++;
            }
        }

        /** Ends the field that was added: 0, or the ERROR. */
        int take(boolean endedByByte) {
            int first = fields.used;
            boolean fine = true;
            if (signs) {
                split();
                match();
                lookBack();
                fine = list(size > 0 && (cells[0] & 255) == '/' ? 0 : tree.current);
                fields.sortFrom(first);
            }
            if (fine && fields.used == first && (size > 0 || quotes || endedByByte)) {
                fine = fields.addText(cells, 0, size);
            }
            clear();
            return fine ? 0 : TOO_MUCH;
        }

        private void split() {
            parts = 0;
            int start = 0;
            for (int i = 0; i <= size && parts < MOST_PARTS; i++) {
                if (i == size || (cells[i] & 255) == '/') {
                    int length = i - start;
                    boolean dot = length > 0 && (cells[start] & 255) == '.';
                    boolean dots = dot && length == 2 && (cells[start + 1] & 255) == '.';
                    starts[parts] = start;
                    ends[parts] = i;
                    kinds[parts] = length == 0 || dot && length == 1 ? STAY : dots ? UP : NAMES;
                    parts++;
                    start = i + 1;
                }
            }
        }

        private void match() {
            for (int p = 0; p < parts; p++) {
                empty(matching, p);
                boolean names = kinds[p] == NAMES;
                boolean dot = names && (cells[starts[p]] & 255) == '.';
                if (names) {
                    pattern.compile(cells, starts[p], ends[p]);
                }
                for (int node = 1; node < Tree.MOST && names; node++) {
                    int name = node * Tree.LONGEST;
                    if (tree.kinds[node] != Tree.FREE && (dot || tree.names[name] != '.')
                            && pattern.matches(tree.names, name, tree.nameSizes[node])) {
                        put(matching, p, node);
                    }
                }
            }
        }

        /** Without this, ways that lead nowhere could be far too many to go. */
        private void lookBack() {
            for (int p = parts - 1; p >= 0; p--) {
                empty(leading, p);
                for (int node = 0; node < Tree.MOST; node++) {
                    boolean directory = tree.kinds[node] == Tree.DIRECTORY;
                    if (kinds[p] == NAMES && has(matching, p, node) && leadsOn(p, node)) {
                        put(leading, p, tree.parents[node]);
                    } else if (kinds[p] == STAY && directory && leadsOn(p, node)
                            || kinds[p] == UP && directory && leadsOn(p, tree.parents[node])) {
                        put(leading, p, node);
                    }
                }
            }
        }

        private boolean leadsOn(int p, int node) {
            return p == parts - 1 || tree.kinds[node] == Tree.DIRECTORY && has(leading, p + 1, node);
        }

        /** Adds all paths as fields: false, if there are too many. */
        private boolean list(int start) {
            if (parts == 0 || !has(leading, 0, start)) {
                return true;
            }
            int p = 0;
            from[0] = start;
            picks[0] = NONE;
            for (int steps = 0; steps < MOST_STEPS && p >= 0; steps++) {
                picks[p] = nextPick(p);
                if (picks[p] < 0) {
                    p--;
                } else if (p < parts - 1) {
                    from[p + 1] = picks[p];
                    p++;
                    picks[p] = NONE;
                } else if (!addPath()) {
                    return false;
                }
            }
            return true;
        }

        private int nextPick(int p) {
            if (kinds[p] != NAMES) {
                return picks[p] >= 0 ? NONE : kinds[p] == STAY ? from[p] : tree.parents[from[p]];
            }
            for (int node = Math.max(1, picks[p] + 1); node < Tree.MOST; node++) {
                if (has(matching, p, node) && tree.parents[node] == from[p] && leadsOn(p, node)) {
                    return node;
                }
            }
            return NONE;
        }

        private boolean addPath() {
            boolean fine = fields.open();
            for (int p = 0; p < parts && fine; p++) {
                if (p > 0) {
                    fine = fields.write(cells, ends[p - 1], 1);
                }
                if (kinds[p] == NAMES) {
                    fine = fine && fields.write(tree.names, picks[p] * Tree.LONGEST, tree.nameSizes[picks[p]]);
                } else {
                    fine = fine && fields.write(cells, starts[p], ends[p] - starts[p]);
                }
            }
            return fine;
        }

        private static void empty(int[] sets, int p) {
            for (int i = 0; i < INTS; i++) {
                sets[p * INTS + i] = 0;
            }
        }

        private static void put(int[] sets, int p, int node) {
            sets[p * INTS + node / 32] |= 1 << node % 32;
        }

        private static boolean has(int[] sets, int p, int node) {
            return (sets[p * INTS + node / 32] >>> node % 32 & 1) != 0;
        }
    }

    /** Reckons a text: it is looked at as a whole, and then what it was made into is run. */
    private static final class Reckoner {
        static final int WRONG = 4;
        static final int MOST_DIGITS = 18;
        /** What is run, beside the signs themselves. AND, OR, UNLESS and JUMP lead forward. */
        static final int NUMBER = 1, LOAD = 2, AND = 3, OR = 4, TRUTH = 5, UNLESS = 6, JUMP = 7, GIVE = 8;
        /** A sign that stands before something, and one that gives a NAME a value. */
        static final int BEFORE = 1 << 16, GIVING = 1 << 17;
        /** Signs of two bytes: the second one stands above the first. */
        static final int AND_SIGN = '&' | '&' << 8, OR_SIGN = '|' | '|' << 8;
        static final int LEFT = '<' | '<' << 8, RIGHT = '>' | '>' << 8;
        static final int AT_MOST = '<' | '=' << 8, AT_LEAST = '>' | '=' << 8;
        static final int SAME = '=' | '=' << 8, OTHER = '!' | '=' << 8;
        /** How much signs bind; those of ( and ? hold back all that is before them. */
        static final int HOLDS = 0, GIVES = 1, CHOOSES = 2, LOWEST = 3, HIGHEST = 13;
        static final int ROOM = 2 * LONGEST_VALUE + 10;

        private final Store store;
        private final int[] text = new int[LONGEST_VALUE];
        private int size;
        private int at;
        private final int[] codes = new int[ROOM];
        private final long[] data = new long[ROOM];
        private int made;
        private final int[] signs = new int[ROOM];
        private final int[] signData = new int[ROOM];
        private int open;
        private final long[] stack = new long[ROOM];
        private final int[] digits = new int[20];
        private boolean wrong;
        private boolean operandDue;
        /** Whether a NAME that gets a value may stand here. */
        private boolean mayGive;
        long result;

        Reckoner(Store store) {
            this.store = store;
        }

        /** 0 with the result, or the ERROR. */
        int reckon(Row row) {
            size = row.flatten(text);
            at = 0;
            made = 0;
            open = 0;
            wrong = false;
            operandDue = true;
            mayGive = true;
            result = 0;
            skipBlanks();
            if (at >= size) {
                return 0;
            }
            for (int steps = 0; steps < size && at < size && !wrong; steps++) {
                if (operandDue) {
                    readOperand(text[at]);
                } else {
                    readSign(signAt());
                }
                skipBlanks();
            }
            popDownTo(GIVES);
            return wrong || operandDue || open > 0 ? WRONG : run();
        }

        private void skipBlanks() {
            while (at < size && isBlank(text[at])) {
                at++;
            }
        }

        private void readOperand(int b) {
            if (isDigit(b)) {
                readNumber();
            } else if (startsName(b)) {
                readName();
            } else if (b == '(') {
                push('(', 0);
                mayGive = true;
                at++;
            } else if (b == '-' || b == '+' || b == '!' || b == '~') {
                push(BEFORE | b, 0);
                mayGive = false;
                at++;
            } else {
                wrong = true;
            }
        }

        private void readNumber() {
            int end = at;
            long number = 0;
            while (end < size && isDigit(text[end])) {
                number = number * 10 + text[end] - '0';
                end++;
            }
            wrong |= end - at > MOST_DIGITS;
            emit(NUMBER, number);
            at = end;
            operandDue = false;
        }

        private void readName() {
            int from = at;
            at = nameEnd(text, from, size);
            int length = at - from;
            wrong |= length > LONGEST_NAME;
            int name = from * 16 + Math.min(length, LONGEST_NAME);
            skipBlanks();
            int sign = signAt();
            if (!gives(sign)) {
                emit(LOAD, name);
                operandDue = false;
                return;
            }
            wrong |= !mayGive;
            if (sign != '=') {
                // its own value is taken before what it gets is reckoned
                emit(LOAD, name);
            }
            push(GIVING | sign, name);
            at += sign > 255 ? 2 : 1;
        }

        private void readSign(int sign) {
            int rank = rank(sign);
            at += sign > 255 ? 2 : 1;
            if (rank >= LOWEST) {
                popDownTo(rank);
                int code = sign == AND_SIGN ? emit(AND, 0) : sign == OR_SIGN ? emit(OR, 0) : 0;
                push(sign, code);
                mayGive = false;
                operandDue = true;
            } else if (sign == ')') {
                popDownTo(GIVES);
                wrong |= top() != '(';
                open = Math.max(0, open - 1);
            } else if (sign == '?') {
                popDownTo(LOWEST);
                push('?', emit(UNLESS, 0));
                mayGive = true;
                operandDue = true;
            } else if (sign == ':') {
                popDownTo(GIVES);
                wrong |= top() != '?';
                int jump = emit(JUMP, 0);
                turnToChoice(jump);
                mayGive = false;
                operandDue = true;
            } else {
                wrong = true;
            }
        }

        /** The ? at hand has its : now; what is made from here on is for when the first one is not needed. */
        private void turnToChoice(int jump) {
            if (!wrong) {
                data[signData[open - 1]] = made;
                signs[open - 1] = ':';
                signData[open - 1] = jump;
            }
        }

        /** The sign at hand, as long as can be; 0, if there is none. */
        private int signAt() {
            int first = at < size ? text[at] : 0;
            int second = at + 1 < size ? text[at + 1] : 0;
            switch (first) {
                case '<': case '>':
                    return second == '=' || second == first ? first | second << 8 : first;
                case '=': case '!': case '+': case '-': case '*': case '/': case '%':
                    return second == '=' ? first | second << 8 : first;
                case '&': case '|':
                    return second == first ? first | second << 8 : first;
                case '^': case '?': case ':': case ')':
                    return first;
                default:
                    return 0;
            }
        }

        private static boolean gives(int sign) {
            int first = sign & 255;
            boolean reckons = first == '+' || first == '-' || first == '*' || first == '/' || first == '%';
            return sign == '=' || sign >> 8 == '=' && reckons;
        }

        private static int rank(int sign) {
            switch (sign) {
                case '*': case '/': case '%': return 12;
                case '+': case '-': return 11;
                case LEFT: case RIGHT: return 10;
                case '<': case AT_MOST: case '>': case AT_LEAST: return 9;
                case SAME: case OTHER: return 8;
                case '&': return 7;
                case '^': return 6;
                case '|': return 5;
                case AND_SIGN: return 4;
                case OR_SIGN: return LOWEST;
                case ':': return CHOOSES;
                default: return HOLDS;
            }
        }

        private int emit(int code, long with) {
            if (made >= ROOM) {
                wrong = true;
                return 0;
            }
            codes[made] = code;
            data[made] = with;
            made++;
            return made - 1;
        }

        private void push(int sign, int with) {
            if (open >= ROOM) {
                wrong = true;
                return;
            }
            signs[open] = sign;
            signData[open] = with;
            open++;
        }

        private int top() {
            return open > 0 ? signs[open - 1] : 0;
        }

        private void popDownTo(int rank) {
            while (open > 0 && openRank(signs[open - 1]) >= rank) {
                open--;
                finish(signs[open], signData[open]);
            }
        }

        private static int openRank(int sign) {
            return (sign & BEFORE) != 0 ? HIGHEST : (sign & GIVING) != 0 ? GIVES : rank(sign);
        }

        /** What belongs to a sign has been made: now the sign itself. */
        private void finish(int sign, int with) {
            if ((sign & GIVING) != 0) {
                if (sign != (GIVING | '=')) {
                    emit(sign & 255, 0);
                }
                emit(GIVE, with);
            } else if (sign == ':') {
                data[with] = made;
            } else if (sign == AND_SIGN || sign == OR_SIGN) {
                emit(TRUTH, 0);
                data[with] = made;
            } else {
                emit(sign, 0);
            }
        }

        private int run() {
            int top = 0;
            for (int i = 0; i < made; i++) {
                int code = codes[i];
                if (code == NUMBER || code == LOAD) {
                    if (top >= ROOM || code == LOAD && !load((int) data[i])) {
                        return WRONG;
                    }
                    stack[top] = code == LOAD ? result : data[i];
                    top++;
                } else if (code == JUMP) {
                    i = Math.max(i, (int) data[i] - 1);
                } else if (top < 1) {
                    return WRONG;
                } else if (code == AND || code == OR || code == UNLESS) {
                    boolean goes = (stack[top - 1] != 0) == (code == OR);
                    stack[top - 1] = code == OR ? 1 : 0;
                    top -= goes && code != UNLESS ? 0 : 1;
                    i = goes ? Math.max(i, (int) data[i] - 1) : i;
                } else if (code == GIVE) {
                    int name = (int) data[i];
                    int error = store.give(text, name / 16, name % 16, digits, writeNumber(stack[top - 1], digits));
                    if (error != 0) {
                        return error;
                    }
                } else if (code == TRUTH || (code & BEFORE) != 0) {
                    stack[top - 1] = single(code & ~BEFORE, stack[top - 1]);
                } else {
                    if (top < 2 || (code == '/' || code == '%') && stack[top - 1] == 0) {
                        return WRONG;
                    }
                    stack[top - 2] = reckonTwo(code, stack[top - 2], stack[top - 1]);
                    top--;
                }
            }
            result = top > 0 ? stack[top - 1] : 0;
            return 0;
        }

        /** Takes a NAME's value as the result: false, if it is no number. */
        private boolean load(int name) {
            Table variables = store.variables;
            int row = variables.find(text, name / 16, name % 16);
            int length = row < 0 ? 0 : variables.textSizes[row];
            int from = row < 0 ? 0 : variables.textAt(row);
            boolean minus = length > 0 && variables.texts[from] == '-';
            int first = minus ? 1 : 0;
            if (length - first > MOST_DIGITS || minus && length == 1) {
                return false;
            }
            long number = 0;
            for (int k = first; k < length; k++) {
                int b = variables.texts[from + k];
                if (!isDigit(b)) {
                    return false;
                }
                number = number * 10 + b - '0';
            }
            result = minus ? -number : number;
            return true;
        }

        private static long single(int sign, long a) {
            switch (sign) {
                case '-': return -a;
                case '~': return ~a;
                case '!': return a == 0 ? 1 : 0;
                case TRUTH: return a == 0 ? 0 : 1;
                default: return a;
            }
        }

        private static long reckonTwo(int sign, long a, long b) {
            switch (sign) {
                case '*': return a * b;
                case '/': return b == 0 ? 0 : a / b;
                case '%': return b == 0 ? 0 : a % b;
                case '+': return a + b;
                case '-': return a - b;
                case LEFT: return a << (int) (b & 63);
                case RIGHT: return a >> (int) (b & 63);
                case '&': return a & b;
                case '^': return a ^ b;
                case '|': return a | b;
                default: return holds(sign, a, b) ? 1 : 0;
            }
        }

        private static boolean holds(int sign, long a, long b) {
            switch (sign) {
                case '<': return a < b;
                case AT_MOST: return a <= b;
                case '>': return a > b;
                case AT_LEAST: return a >= b;
                case SAME: return a == b;
                default: return a != b;
            }
        }
    }
}
