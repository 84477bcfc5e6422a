/**
 * Bytes of a compiled class that are put together freely, read and judged by the rules of the format, and cut down
 * to the least that breaks the same rule. The document's promises say what each call answers.
 */
public final class ClassShape {
    public static final int REFUSED = -1;
    public static final int FULL = -2;

    private static final int RULES = 28;
    private static final int LARGEST_CUT = 32;
    private static final int TEXT_HEAD = 3;
    private static final int MOST_LETTERS = 8;

    private final FileBytes file;
    private final Judging judging;
    private final int[] timesFound;
    private final int[] takenOut;
    private int judgings;

    public ClassShape() {
        file = new FileBytes();
        judging = new Judging(file);
        timesFound = new int[RULES + 1];
        takenOut = new int[LARGEST_CUT];
    }

    public int put(int width, int value) {
        if (width != 1 && width != 2 && width != 4) {
            return REFUSED;
        }
        if (!file.hasRoomFor(width)) {
            return FULL;
        }
        file.append(width, value);
        return file.length;
    }

    public int text(int n, long letters) {
        if (n < 0 || n > MOST_LETTERS) {
            return REFUSED;
        }
        if (!file.hasRoomFor(TEXT_HEAD + n)) {
            return FULL;
        }
        file.append(1, Pool.TEXT);
        file.append(2, n);
        for (int i = 0; i < n; i++) {
            file.append(1, (int) (letters >>> (8 * i)));
        }
        return file.length;
    }

    public int patch(int at, int value) {
        if (!file.holds(at, 1)) {
            return REFUSED;
        }
        int before = file.cells[at];
        file.cells[at] = value & 0xFF;
        return before;
    }

    public int cut(int at, int n) {
        if (n < 1 || !file.holds(at, n)) {
            return REFUSED;
        }
        file.close(at, n);
        return file.length;
    }

    public int twice(int at, int n) {
        if (n < 1 || !file.holds(at, n)) {
            return REFUSED;
        }
        if (!file.hasRoomFor(n)) {
            return FULL;
        }
        file.open(at, n);
        return file.length;
    }

    public int clear() {
        int before = file.length;
        file.length = 0;
        return before;
    }

    public int judge() {
        int rule = judging.run();
        timesFound[rule]++;
        judgings++;
        return rule;
    }

    public int place() {
        return judging.reader.rule == 0 ? REFUSED : judging.reader.spot;
    }

    public int shrink() {
        int before = file.length;
        int rule = judging.run();
        if (rule == 0) {
            return 0;
        }
        for (int n = LARGEST_CUT; n >= 1; n /= 2) {
            for (int from = file.length - n; from >= 0; from--) {
                if (!file.holds(from, n)) {
                    continue;
                }
                System.arraycopy(file.cells, from, takenOut, 0, n);
                file.close(from, n);
                if (judging.run() != rule) {
                    file.open(from, n);
                    System.arraycopy(takenOut, 0, file.cells, from, n);
                }
            }
        }
        // The last try may have been taken back: what is told afterwards is of the FILE that is left.
        judging.run();
        return before - file.length;
    }

    public int at(int place) {
        return file.holds(place, 1) ? file.cells[place] : REFUSED;
    }

    public int read(int what) {
        if (what < 0 || what >= Judging.TALLIES) {
            return REFUSED;
        }
        return judging.tally[what];
    }

    public int found(int r) {
        return r < 0 || r > RULES ? REFUSED : timesFound[r];
    }

    public int count(int what) {
        switch (what) {
            case 0:
                return file.length;
            case 1:
                return rulesFound();
            case 2:
                return judgings;
            default:
                return REFUSED;
        }
    }

    private int rulesFound() {
        int rules = 0;
        for (int r = 1; r <= RULES; r++) {
            if (timesFound[r] > 0) {
                rules++;
            }
        }
        return rules;
    }

    /** The FILE: its bytes as numbers 0 .. 255. */
    private static final class FileBytes {
        static final int MOST = 400;

        final int[] cells = new int[MOST];
        int length;

        boolean holds(int from, int n) {
            return from >= 0 && n <= length - from;
        }

        boolean hasRoomFor(int n) {
            return n <= MOST - length;
        }

        void append(int width, int value) {
            for (int shift = 8 * (width - 1); shift >= 0; shift -= 8) {
                cells[length] = (value >>> shift) & 0xFF;
                length++;
            }
        }

        /** Takes n bytes out. */
        void close(int from, int n) {
            System.arraycopy(cells, from + n, cells, from, length - from - n);
            length -= n;
        }

        /** Moves all from a place on n further; what was there is still there, so n bytes stand twice. */
        void open(int from, int n) {
            System.arraycopy(cells, from, cells, from + n, length - from);
            length += n;
        }

        int u2(int from) {
            return cells[from] << 8 | cells[from + 1];
        }

        int u4(int from) {
            return cells[from] << 24 | cells[from + 1] << 16 | cells[from + 2] << 8 | cells[from + 3];
        }
    }

    /** Goes over the FILE from place 0 on, and holds the first broken RULE and its place. */
    private static final class Reader {
        final FileBytes file;
        int rule;
        int spot;
        int next;
        private int limit;
        private int limitRule;
        private int limitSpot;

        Reader(FileBytes file) {
            this.file = file;
        }

        void restart() {
            rule = 0;
            spot = 0;
            next = 0;
            release();
        }

        /** From now on, reading beyond the end breaks a RULE of the part that is read, not RULE 1. */
        void confine(int end, int ruleBeyond, int spotBeyond) {
            limit = end;
            limitRule = ruleBeyond;
            limitSpot = spotBeyond;
        }

        void release() {
            limit = file.length;
            limitRule = 1;
            limitSpot = file.length;
        }

        /** Goes over n bytes, if they are there. A U4 of 2^31 and more comes as n below 0, and is never there. */
        boolean step(int n) {
            if (n < 0 || n > limit - next) {
                rule = limitRule;
                spot = limitSpot;
                return false;
            }
            next += n;
            return true;
        }

        /** Answers false, as every reading method does that can't go on. */
        boolean broken(int brokenRule, int brokenSpot) {
            rule = brokenRule;
            spot = brokenSpot;
            return false;
        }
    }

    /** What names and types are made of; each is the bytes of a row from a place up to another. */
    private static final class Names {
        private static final int NONE = -1;
        private static final int MOST_BRACKETS = 255;

        static boolean isFieldName(int[] row, int from, int to) {
            for (int i = from; i < to; i++) {
                if (row[i] == '.' || row[i] == ';' || row[i] == '[' || row[i] == '/') {
                    return false;
                }
            }
            return from < to;
        }

        static boolean isMemberName(int[] row, int from, int to) {
            if (isWord(row, from, to, "<init>") || isWord(row, from, to, "<clinit>")) {
                return true;
            }
            for (int i = from; i < to; i++) {
                if (row[i] == '<' || row[i] == '>') {
                    return false;
                }
            }
            return isFieldName(row, from, to);
        }

        static boolean isClassName(int[] row, int from, int to) {
            boolean partHasBytes = false;
            for (int i = from; i < to; i++) {
                boolean endsPart = row[i] == '/';
                if (row[i] == '.' || row[i] == ';' || row[i] == '[' || (endsPart && !partHasBytes)) {
                    return false;
                }
                partHasBytes = !endsPart;
            }
            return partHasBytes;
        }

        static boolean isFieldType(int[] row, int from, int to) {
            return fieldTypeEnd(row, from, to) == to;
        }

        static boolean isMethodType(int[] row, int from, int to) {
            if (from >= to || row[from] != '(') {
                return false;
            }
            int next = from + 1;
            while (next < to && row[next] != ')') {
                int end = fieldTypeEnd(row, next, to);
                if (end <= next) {
                    return false;
                }
                next = end;
            }
            int answer = next + 1;
            boolean isVoid = answer == to - 1 && row[answer] == 'V';
            return isVoid || fieldTypeEnd(row, answer, to) == to;
        }

        /** The place behind the FIELD TYPE that begins at from, or NONE. */
        private static int fieldTypeEnd(int[] row, int from, int to) {
            int kind = from + brackets(row, from, to);
            if (kind >= to || kind - from > MOST_BRACKETS) {
                return NONE;
            }
            if (row[kind] != 'L') {
                return isPlainType(row[kind]) ? kind + 1 : NONE;
            }
            int end = kind + 1;
            while (end < to && row[end] != ';') {
                end++;
            }
            return end < to && isClassName(row, kind + 1, end) ? end + 1 : NONE;
        }

        /** How many [ there are from a place on. */
        static int brackets(int[] row, int from, int to) {
            int next = from;
            while (next < to && row[next] == '[') {
                next++;
            }
            return next - from;
        }

        static boolean isWord(int[] row, int from, int to, String word) {
            if (to - from != word.length()) {
                return false;
            }
            for (int i = 0; i < word.length(); i++) {
                if (row[from + i] != word.charAt(i)) {
                    return false;
                }
            }
            return true;
        }

        /** The place of the first byte of the first character that is none, or NONE. */
        static int firstNoCharacter(int[] row, int from, int to) {
            int next = from;
            while (next < to) {
                int size = characterSize(row[next]);
                if (size == 0 || size > to - next) {
                    return next;
                }
                for (int i = next + 1; i < next + size; i++) {
                    if (row[i] < 0x80 || row[i] > 0xBF) {
                        return next;
                    }
                }
                next += size;
            }
            return NONE;
        }

        /** How many bytes a character has that begins so, or 0 if none does. */
        private static int characterSize(int first) {
            if (first >= 0x01 && first <= 0x7F) {
                return 1;
            }
            if (first >= 0xC0 && first <= 0xDF) {
                return 2;
            }
            return first >= 0xE0 && first <= 0xEF ? 3 : 0;
        }

        private static boolean isPlainType(int letter) {
            switch (letter) {
                case 'B':
                case 'C':
                case 'D':
                case 'F':
                case 'I':
                case 'J':
                case 'S':
                case 'Z':
                    return true;
                default:
                    return false;
            }
        }
    }

    /** The pool: where each entry's tag stands and of what kind it is. */
    private static final class Pool {
        static final int NOTHING = 0;
        static final int TEXT = 1;
        static final int INT = 3;
        static final int LONG = 5;
        static final int CLASS = 7;
        static final int STRING = 8;
        static final int METHOD = 10;
        static final int PAIR = 12;

        // An entry has at least three bytes for each of its numbers, so more numbers than these are never filled.
        private static final int MOST_NUMBERS = FileBytes.MOST / 3 + 2;

        private final FileBytes file;
        private final Reader reader;
        private final int[] kinds = new int[MOST_NUMBERS];
        private final int[] tags = new int[MOST_NUMBERS];
        int numbersRead;

        Pool(Reader reader) {
            this.reader = reader;
            this.file = reader.file;
        }

        void forget() {
            numbersRead = 0;
        }

        boolean readEntries() {
            int start = reader.next;
            if (!reader.step(2)) {
                return false;
            }
            int count = file.u2(start);
            if (count == 0) {
                return reader.broken(4, start);
            }
            int number = 1;
            while (number < count) {
                if (!readEntry(number, count)) {
                    return false;
                }
                number += kinds[number] == LONG ? 2 : 1;
                numbersRead = number - 1;
            }
            return true;
        }

        private boolean readEntry(int number, int count) {
            int tag = reader.next;
            if (!reader.step(1)) {
                return false;
            }
            int kind = file.cells[tag];
            int size = fixedSize(kind);
            if (size == 0) {
                return reader.broken(5, tag);
            }
            if (!reader.step(size)) {
                return false;
            }
            kinds[number] = kind;
            tags[number] = tag;
            if (kind == TEXT) {
                return readLetters(tag);
            }
            return kind != LONG || takeSecondNumber(number, count);
        }

        private boolean readLetters(int tag) {
            if (!reader.step(file.u2(tag + 1))) {
                return false;
            }
            int wrong = Names.firstNoCharacter(file.cells, tag + TEXT_HEAD, reader.next);
            return wrong < 0 || reader.broken(6, wrong);
        }

        private boolean takeSecondNumber(int number, int count) {
            if (number + 1 >= count) {
                numbersRead = number;
                return reader.broken(7, tags[number]);
            }
            kinds[number + 1] = NOTHING;
            return true;
        }

        /** How many bytes follow the tag, of a TEXT its length alone; 0 if it is no tag. */
        private static int fixedSize(int kind) {
            switch (kind) {
                case TEXT:
                case CLASS:
                case STRING:
                    return 2;
                case INT:
                case METHOD:
                case PAIR:
                    return 4;
                case LONG:
                    return 8;
                default:
                    return 0;
            }
        }

        boolean judgeReferences() {
            for (int number = 1; number <= numbersRead; number++) {
                if (!referencesFit(number)) {
                    return reader.broken(8, tags[number]);
                }
            }
            return true;
        }

        private boolean referencesFit(int number) {
            switch (kinds[number]) {
                case CLASS:
                case STRING:
                    return kindOf(first(number)) == TEXT;
                case METHOD:
                    return kindOf(first(number)) == CLASS && kindOf(second(number)) == PAIR;
                case PAIR:
                    return kindOf(first(number)) == TEXT && kindOf(second(number)) == TEXT;
                default:
                    return true;
            }
        }

        boolean judgeTexts() {
            for (int number = 1; number <= numbersRead; number++) {
                int rule = textRule(number);
                if (rule != 0) {
                    return reader.broken(rule, tags[number]);
                }
            }
            return true;
        }

        /** The RULE that is broken by the TEXTs which a CLASS or PAIR names, or 0. */
        private int textRule(int number) {
            if (kinds[number] == CLASS) {
                int name = first(number);
                return Names.isClassName(file.cells, textStart(name), textEnd(name)) ? 0 : 9;
            }
            if (kinds[number] != PAIR) {
                return 0;
            }
            if (!isMemberName(first(number))) {
                return 9;
            }
            return isMethodType(second(number)) ? 0 : 10;
        }

        /** The kind of the entry of a number, NOTHING if the number is none of an entry. */
        int kindOf(int number) {
            return number >= 1 && number <= numbersRead ? kinds[number] : NOTHING;
        }

        private int first(int number) {
            return file.u2(tags[number] + 1);
        }

        private int second(int number) {
            return file.u2(tags[number] + 3);
        }

        int textStart(int number) {
            return tags[number] + TEXT_HEAD;
        }

        int textEnd(int number) {
            return textStart(number) + first(number);
        }

        boolean isFieldName(int number) {
            return kindOf(number) == TEXT && Names.isFieldName(file.cells, textStart(number), textEnd(number));
        }

        boolean isMemberName(int number) {
            return kindOf(number) == TEXT && Names.isMemberName(file.cells, textStart(number), textEnd(number));
        }

        boolean isFieldType(int number) {
            return kindOf(number) == TEXT && Names.isFieldType(file.cells, textStart(number), textEnd(number));
        }

        boolean isMethodType(int number) {
            return kindOf(number) == TEXT && Names.isMethodType(file.cells, textStart(number), textEnd(number));
        }

        boolean isWord(int number, String word) {
            return Names.isWord(file.cells, textStart(number), textEnd(number), word);
        }

        boolean sameTexts(int number, int other) {
            int size = first(number);
            if (size != first(other)) {
                return false;
            }
            for (int i = 0; i < size; i++) {
                if (file.cells[textStart(number) + i] != file.cells[textStart(other) + i]) {
                    return false;
                }
            }
            return true;
        }
    }

    /** The INSTRUCTIONS and handlers of one CODE; places in it are told from its first instruction on. */
    private static final class Code {
        static final int MOST = 64;
        static final int HANDLER_SIZE = 8;

        private static final int PUSH_BYTE = 16;
        private static final int PUSH_SHORT = 17;
        private static final int PUSH_ENTRY = 18;
        private static final int LOAD = 21;
        private static final int STORE = 54;
        private static final int INCREASE = 132;
        private static final int JUMP_IF_ZERO = 153;
        private static final int JUMP = 167;
        private static final int TABLE = 170;
        private static final int RETURN_INT = 172;
        private static final int RETURN = 177;
        private static final int CALL = 184;
        private static final int THROW = 191;
        private static final int WIDE = 196;
        private static final int TABLE_HEAD = 12;
        private static final int MOST_TABLE_JUMPS = 8;

        private final FileBytes file;
        private final Reader reader;
        private final Pool pool;
        private final boolean[] begins = new boolean[MOST];
        private final int[] ops = new int[MOST];
        private int base;
        private int length;
        private int locals;
        int instructions;
        int handlers;

        Code(Reader reader, Pool pool) {
            this.reader = reader;
            this.file = reader.file;
            this.pool = pool;
        }

        /** Looks at the CODE that begins at a place in the FILE, has all its bytes and a length of 1 .. 64. */
        void lookAt(int start) {
            locals = file.u2(start + 2);
            length = file.u4(start + 4);
            base = start + 8;
            handlers = file.u2(base + length);
            instructions = 0;
        }

        boolean judgeInstructions() {
            for (int i = 0; i < length; i++) {
                begins[i] = false;
            }
            int op = 0;
            while (op < length) {
                int size = sizeOf(op);
                if (size < 1 || size > length - op) {
                    return reader.broken(23, base + op);
                }
                if (!operandsFit(op)) {
                    return reader.broken(24, base + op);
                }
                begins[op] = true;
                ops[instructions] = op;
                instructions++;
                op += size;
            }
            return true;
        }

        boolean judgeJumps() {
            for (int i = 0; i < instructions; i++) {
                if (!jumpsFit(ops[i])) {
                    return reader.broken(25, base + ops[i]);
                }
            }
            return true;
        }

        boolean judgeLast() {
            int last = ops[instructions - 1];
            switch (file.cells[base + last]) {
                case JUMP:
                case TABLE:
                case RETURN_INT:
                case RETURN:
                case THROW:
                    return true;
                default:
                    return reader.broken(26, base + last);
            }
        }

        boolean judgeHandlers() {
            for (int i = 0; i < handlers; i++) {
                int handler = base + length + 2 + i * HANDLER_SIZE;
                if (!handlerFits(handler)) {
                    return reader.broken(27, handler);
                }
            }
            return true;
        }

        /** How many bytes an instruction has, even if they are not there; 0 if it can't be one. */
        private int sizeOf(int op) {
            switch (file.cells[base + op]) {
                case 0:
                case 1:
                case 3:
                case 87:
                case 96:
                case RETURN_INT:
                case RETURN:
                case THROW:
                    return 1;
                case PUSH_BYTE:
                case PUSH_ENTRY:
                case LOAD:
                case STORE:
                    return 2;
                case PUSH_SHORT:
                case INCREASE:
                case JUMP_IF_ZERO:
                case JUMP:
                case CALL:
                    return 3;
                case TABLE:
                    return tableSize(op);
                case WIDE:
                    return wideSize(op);
                default:
                    return 0;
            }
        }

        private int wideSize(int op) {
            if (op + 1 >= length) {
                return 0;
            }
            switch (file.cells[base + op + 1]) {
                case LOAD:
                case STORE:
                    return 4;
                case INCREASE:
                    return 6;
                default:
                    return 0;
            }
        }

        private int tableSize(int op) {
            int table = tableOf(op);
            if (table + TABLE_HEAD > length) {
                return 0;
            }
            // Longs, as high - low may be beyond an int.
            long low = file.u4(base + table + 4);
            long high = file.u4(base + table + 8);
            if (low > high || high - low >= MOST_TABLE_JUMPS) {
                return 0;
            }
            return table + TABLE_HEAD + 4 * (int) (high - low + 1) - op;
        }

        /** The place behind the op where its numbers begin: the next multiple of 4. */
        private static int tableOf(int op) {
            return (op + 4) / 4 * 4;
        }

        private boolean operandsFit(int op) {
            int operand = base + op + 1;
            switch (file.cells[base + op]) {
                case PUSH_ENTRY:
                    return pool.kindOf(file.cells[operand]) == Pool.INT
                        || pool.kindOf(file.cells[operand]) == Pool.STRING;
                case LOAD:
                case STORE:
                case INCREASE:
                    return file.cells[operand] < locals;
                case CALL:
                    return pool.kindOf(file.u2(operand)) == Pool.METHOD;
                case WIDE:
                    return file.u2(operand + 1) < locals;
                default:
                    return true;
            }
        }

        private boolean jumpsFit(int op) {
            switch (file.cells[base + op]) {
                case JUMP_IF_ZERO:
                case JUMP:
                    return isInstruction(op + (short) file.u2(base + op + 1));
                case TABLE:
                    return tableFits(op);
                default:
                    return true;
            }
        }

        private boolean tableFits(int op) {
            int table = base + tableOf(op);
            if (!isInstruction((long) op + file.u4(table))) {
                return false;
            }
            int jumps = file.u4(table + 8) - file.u4(table + 4) + 1;
            for (int i = 0; i < jumps; i++) {
                if (!isInstruction((long) op + file.u4(table + TABLE_HEAD + 4 * i))) {
                    return false;
                }
            }
            return true;
        }

        private boolean handlerFits(int handler) {
            int from = file.u2(handler);
            int to = file.u2(handler + 2);
            int kind = file.u2(handler + 6);
            return isInstruction(from)
                && (to == length || isInstruction(to))
                && isInstruction(file.u2(handler + 4))
                && from < to
                && (kind == 0 || pool.kindOf(kind) == Pool.CLASS);
        }

        private boolean isInstruction(long op) {
            return op >= 0 && op < length && begins[(int) op];
        }
    }

    /** One judging of the FILE, and what it read. Each method that reads answers whether it could go on. */
    private static final class Judging {
        static final int TALLIES = 7;

        private static final int NONE = -1;
        private static final int NUMBERS = 0;
        private static final int FIELDS = 1;
        private static final int METHODS = 2;
        private static final int INSTRUCTIONS = 3;
        private static final int HANDLERS = 4;
        private static final int ATTRIBUTES = 5;
        private static final int BRACKETS = 6;

        private static final int MAGIC = 0xCAFEBABE;
        private static final int FIRST_MAJOR = 45;
        private static final int LAST_MAJOR = 69;
        private static final int PUBLIC = 0x0001;
        private static final int PRIVATE = 0x0002;
        private static final int PROTECTED = 0x0004;
        private static final int STATIC = 0x0008;
        private static final int FINAL = 0x0010;
        private static final int VOLATILE = 0x0040;
        private static final int NATIVE = 0x0100;
        private static final int INTERFACE = 0x0200;
        private static final int ABSTRACT = 0x0400;
        private static final int ATTRIBUTE_HEAD = 6;
        // A field or method has at least eight bytes, so more of them never begin.
        private static final int MOST_MEMBERS = FileBytes.MOST / 8 + 1;

        final Reader reader;
        final int[] tally = new int[TALLIES];
        private final FileBytes file;
        private final Pool pool;
        private final Code code;
        private final int[] members = new int[MOST_MEMBERS];
        private boolean hasCode;

        Judging(FileBytes file) {
            this.file = file;
            reader = new Reader(file);
            pool = new Pool(reader);
            code = new Code(reader, pool);
        }

        /** The first broken RULE, or 0. */
        int run() {
            reader.restart();
            pool.forget();
            for (int i = 0; i < TALLIES; i++) {
                tally[i] = 0;
            }
            boolean whole = readHead() && pool.readEntries() && pool.judgeReferences() && pool.judgeTexts()
                && readClass() && readInterfaces() && readFields() && readMethods() && passAttributes();
            tally[NUMBERS] = pool.numbersRead;
            if (whole && reader.next < file.length) {
                reader.broken(28, reader.next);
            }
            return reader.rule;
        }

        private boolean readHead() {
            if (!reader.step(4)) {
                return false;
            }
            if (file.u4(0) != MAGIC) {
                return reader.broken(2, 0);
            }
            if (!reader.step(4)) {
                return false;
            }
            int major = file.u2(6);
            return (major >= FIRST_MAJOR && major <= LAST_MAJOR) || reader.broken(3, 6);
        }

        private boolean readClass() {
            int start = reader.next;
            if (!reader.step(2)) {
                return false;
            }
            if (!classFlagsFit(file.u2(start))) {
                return reader.broken(11, start);
            }
            return readClassNumber() && readClassNumber();
        }

        private static boolean classFlagsFit(int flags) {
            boolean isAbstract = (flags & ABSTRACT) != 0;
            boolean isFinal = (flags & FINAL) != 0;
            if ((flags & INTERFACE) != 0 && !isAbstract) {
                return false;
            }
            // A final interface is abstract too, or it broke the line above.
            return !(isAbstract && isFinal);
        }

        private boolean readClassNumber() {
            int start = reader.next;
            if (!reader.step(2)) {
                return false;
            }
            return pool.kindOf(file.u2(start)) == Pool.CLASS || reader.broken(12, start);
        }

        private boolean readInterfaces() {
            int interfaces = readNumber();
            int start = reader.next;
            for (int i = 0; i < interfaces; i++) {
                int last = reader.next;
                if (!readClassNumber()) {
                    return false;
                }
                for (int earlier = start; earlier < last; earlier += 2) {
                    if (file.u2(earlier) == file.u2(last)) {
                        return reader.broken(13, last);
                    }
                }
            }
            return interfaces != NONE;
        }

        /** How many things of a kind follow; NONE if that can't be read. */
        private int readNumber() {
            int start = reader.next;
            return reader.step(2) ? file.u2(start) : NONE;
        }

        private boolean readFields() {
            int fields = readNumber();
            for (int i = 0; i < fields; i++) {
                if (!readMemberHead(i, false)) {
                    return false;
                }
                int attributes = readNumber();
                for (int k = 0; k < attributes; k++) {
                    if (!readFieldAttribute(file.u2(members[i] + 4))) {
                        return false;
                    }
                }
                if (attributes == NONE) {
                    return false;
                }
                tally[FIELDS]++;
            }
            return fields != NONE;
        }

        /** Reads a field's or method's flags, name and type. */
        private boolean readMemberHead(int i, boolean isMethod) {
            int head = reader.next;
            if (!reader.step(2)) {
                return false;
            }
            int flags = file.u2(head);
            if (!(isMethod ? methodFlagsFit(flags) : fieldFlagsFit(flags))) {
                return reader.broken(14, head);
            }
            if (!reader.step(2)) {
                return false;
            }
            int name = file.u2(head + 2);
            if (!(isMethod ? pool.isMemberName(name) : pool.isFieldName(name))) {
                return reader.broken(15, head + 2);
            }
            if (!reader.step(2)) {
                return false;
            }
            int type = file.u2(head + 4);
            if (!(isMethod ? pool.isMethodType(type) : pool.isFieldType(type))) {
                return reader.broken(16, head + 4);
            }
            if (!isMethod) {
                countBrackets(type);
            }
            return addMember(i, head);
        }

        private void countBrackets(int type) {
            int brackets = Names.brackets(file.cells, pool.textStart(type), pool.textEnd(type));
            tally[BRACKETS] = Math.max(tally[BRACKETS], brackets);
        }

        private static boolean fieldFlagsFit(int flags) {
            boolean isFinalAndVolatile = (flags & FINAL) != 0 && (flags & VOLATILE) != 0;
            return hasAtMostOneAccess(flags) && !isFinalAndVolatile;
        }

        private static boolean methodFlagsFit(int flags) {
            boolean needsBody = (flags & (FINAL | STATIC | PRIVATE)) != 0;
            return hasAtMostOneAccess(flags) && !((flags & ABSTRACT) != 0 && needsBody);
        }

        private static boolean hasAtMostOneAccess(int flags) {
            return Integer.bitCount(flags & (PUBLIC | PRIVATE | PROTECTED)) <= 1;
        }

        /** Keeps where the member of this number begins, unless an earlier one has the same name and type. */
        private boolean addMember(int i, int head) {
            for (int k = 0; k < i; k++) {
                if (pool.sameTexts(file.u2(members[k] + 2), file.u2(head + 2))
                    && pool.sameTexts(file.u2(members[k] + 4), file.u2(head + 4))) {
                    return reader.broken(17, head + 2);
                }
            }
            members[i] = head;
            return true;
        }

        private boolean readFieldAttribute(int type) {
            int name = reader.next;
            if (!readAttributeName() || !stepAttributeBytes()) {
                return false;
            }
            if (pool.isWord(file.u2(name), "ConstantValue") && !constantFits(name, type)) {
                return reader.broken(18, name);
            }
            tally[ATTRIBUTES]++;
            return true;
        }

        private boolean constantFits(int name, int type) {
            if (file.u4(name + 2) != 2) {
                return false;
            }
            int kind = pool.kindOf(file.u2(name + ATTRIBUTE_HEAD));
            switch (file.cells[pool.textStart(type)]) {
                case 'I':
                case 'S':
                case 'B':
                case 'C':
                case 'Z':
                    return kind == Pool.INT;
                case 'J':
                    return kind == Pool.LONG;
                default:
                    return false;
            }
        }

        private boolean readMethods() {
            int methods = readNumber();
            for (int i = 0; i < methods; i++) {
                if (!readMemberHead(i, true)) {
                    return false;
                }
                hasCode = false;
                int attributes = readNumber();
                for (int k = 0; k < attributes; k++) {
                    if (!readMethodAttribute()) {
                        return false;
                    }
                }
                if (attributes == NONE) {
                    return false;
                }
                boolean bodyless = (file.u2(members[i]) & (ABSTRACT | NATIVE)) != 0;
                if (bodyless == hasCode) {
                    return reader.broken(21, members[i]);
                }
                tally[METHODS]++;
            }
            return methods != NONE;
        }

        private boolean readMethodAttribute() {
            int name = reader.next;
            if (!readAttributeName()) {
                return false;
            }
            boolean isCode = pool.isWord(file.u2(name), "Code");
            if (isCode && hasCode) {
                return reader.broken(19, name);
            }
            if (!stepAttributeBytes()) {
                return false;
            }
            if (isCode) {
                hasCode = true;
                boolean fits = readCode(name) && code.judgeInstructions() && code.judgeJumps()
                    && code.judgeLast() && code.judgeHandlers();
                if (!fits) {
                    return false;
                }
                tally[INSTRUCTIONS] += code.instructions;
                tally[HANDLERS] += code.handlers;
            }
            tally[ATTRIBUTES]++;
            return true;
        }

        /** Reads the CODE of an attribute whose bytes have been gone over; no place behind them is read. */
        private boolean readCode(int name) {
            int end = reader.next;
            int start = name + ATTRIBUTE_HEAD;
            reader.next = start;
            reader.confine(end, 20, name);
            if (!stepInstructions(start)) {
                return false;
            }
            int handlers = readNumber();
            if (handlers == NONE || !reader.step(handlers * Code.HANDLER_SIZE) || !passAttributes()) {
                return false;
            }
            if (reader.next != end) {
                return reader.broken(20, name);
            }
            reader.release();
            code.lookAt(start);
            return true;
        }

        private boolean stepInstructions(int start) {
            if (!reader.step(8)) {
                return false;
            }
            int length = file.u4(start + 4);
            if (length < 1 || length > Code.MOST) {
                return reader.broken(22, start + 4);
            }
            return reader.step(length);
        }

        private boolean passAttributes() {
            int attributes = readNumber();
            for (int i = 0; i < attributes; i++) {
                if (!readAttributeName() || !stepAttributeBytes()) {
                    return false;
                }
                tally[ATTRIBUTES]++;
            }
            return attributes != NONE;
        }

        private boolean readAttributeName() {
            int name = reader.next;
            if (!reader.step(2)) {
                return false;
            }
            return pool.kindOf(file.u2(name)) == Pool.TEXT || reader.broken(15, name);
        }

        private boolean stepAttributeBytes() {
            int length = reader.next;
            return reader.step(4) && reader.step(file.u4(length));
        }
    }
}
