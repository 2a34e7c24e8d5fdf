import java.util.NoSuchElementException;

/**
 * A desk for mail merge: tables of records, and a template that is compiled and merged with them
 * into a text.
 *
 * All rows are made once, with the desk; merging makes no objects at all, for a merge may work out
 * thousands of values and all calls of a run share one room.
 */
public final class MergeDesk {

    private static final int MAX_TEXT = 600;
    private static final int MAX_TEMPLATE = 500;
    private static final int MAX_TABLES = 4;
    private static final int MAX_COLUMNS = 6;
    private static final int MAX_RECORDS = 16;
    private static final int MAX_NAME = 8;
    private static final int MAX_WORD = 12;
    private static final int MAX_DIGITS = 15;
    private static final int MAX_TAGS = 120;
    private static final int MAX_OPEN = 6;
    private static final int MAX_DEPTH = 8;
    private static final int MAX_POINT = 4;
    private static final int MAX_WIDTH = 20;
    private static final int MAX_OUT = 4000;
    private static final int MAX_DONE = 3000;
    private static final long MAX_NUMBER = 1_000_000_000_000_000L;
    private static final long MAX_PRODUCT = 100_000_000_000_000_000L;

    private static final int FINE = 0;
    private static final int NOTHING_NAMED = 1;
    private static final int WRONG_KIND = 2;
    private static final int OUT_OF_RANGE = 3;
    private static final int TOO_LONG = 4;
    private static final int TOO_MANY_TAGS = 5;
    private static final int FAULT_UNIT = 10_000;

    /** A name has at most eight letters: packed into a long it is compared at once and makes no object. */
    private static final long NO_NAME = 0;
    private static final long TAG_EACH = (long) 'e' << 24 | 'a' << 16 | 'c' << 8 | 'h';
    private static final long TAG_END = 'e' << 16 | 'n' << 8 | 'd';
    private static final long TAG_IF = 'i' << 8 | 'f';
    private static final long TAG_ELSE = (long) 'e' << 24 | 'l' << 16 | 's' << 8 | 'e';
    private static final long TAG_LET = 'l' << 16 | 'e' << 8 | 't';

    private final Text text;
    private final Shelf shelf;
    private final Compiler compiler;
    private final Merger merger;
    private final long[] namesRead;
    private final Value[] cellsRead;

    public MergeDesk() {
        text = new Text();
        shelf = new Shelf();
        compiler = new Compiler();
        merger = new Merger();
        namesRead = new long[1 + MAX_COLUMNS];
        cellsRead = new Value[MAX_COLUMNS];
        for (int i = 0; i < MAX_COLUMNS; i++) {
            cellsRead[i] = new Value();
        }
    }

    public boolean type(long w, int n) {
        return n >= 1 && n <= 8 && text.append(w, n);
    }

    public int table() throws IllegalArgumentException, UnsupportedOperationException {
        int names = text.readNames(namesRead);
        text.clear();
        if (!isTable(names) || shelf.named(namesRead[0]) != null) {
            throw new IllegalArgumentException();
        }
        if (shelf.count == MAX_TABLES) {
            throw new UnsupportedOperationException();
        }
        return shelf.add(namesRead, names);
    }

    public int record(int table)
            throws IndexOutOfBoundsException, IllegalArgumentException, UnsupportedOperationException {
        int cells = text.readCells(cellsRead);
        text.clear();
        Table target = shelf.at(table);
        if (target == null) {
            throw new IndexOutOfBoundsException();
        }
        if (cells != target.columns) {
            throw new IllegalArgumentException();
        }
        if (target.records == MAX_RECORDS) {
            throw new UnsupportedOperationException();
        }
        return target.add(cellsRead);
    }

    public void cell(int table, int record, int column)
            throws IndexOutOfBoundsException, IllegalArgumentException {
        boolean isCell = text.readCell(0, text.length, cellsRead[0]);
        text.clear();
        Value target = cellOrNull(table, record, column);
        if (target == null) {
            throw new IndexOutOfBoundsException();
        }
        if (!isCell) {
            throw new IllegalArgumentException();
        }
        target.take(cellsRead[0]);
    }

    public void drop(int table, int record) throws IndexOutOfBoundsException {
        Table target = shelf.at(table);
        if (target == null || record < 0 || record >= target.records) {
            throw new IndexOutOfBoundsException();
        }
        target.remove(record);
    }

    public int compile() {
        int answer = compiler.read(text);
        text.clear();
        return answer;
    }

    public int merge() throws IllegalStateException {
        if (!compiler.stands) {
            throw new IllegalStateException();
        }
        return merger.run(compiler.first, shelf);
    }

    public int size() {
        return merger.length;
    }

    public int out(int i) throws IndexOutOfBoundsException {
        if (i < 0 || i >= merger.length) {
            throw new IndexOutOfBoundsException();
        }
        return merger.bytes[i];
    }

    public long variable() throws NoSuchElementException {
        long name = text.nameIn(0, text.length);
        text.clear();
        Value value = merger.evaluator.scope.variableNamed(name);
        if (value == null || value.isWord) {
            throw new NoSuchElementException();
        }
        return value.number;
    }

    public int about(int what) throws IndexOutOfBoundsException {
        switch (what) {
            case 0:
                return shelf.count;
            case 1:
                return shelf.recordsInAll();
            case 2:
                return compiler.tags;
            case 3:
                return merger.done;
            case 4:
                return merger.evaluator.scope.variables;
            default:
                throw new IndexOutOfBoundsException();
        }
    }

    public long number(int table, int record, int column)
            throws IndexOutOfBoundsException, NoSuchElementException {
        Value value = cellOrNull(table, record, column);
        if (value == null) {
            throw new IndexOutOfBoundsException();
        }
        if (value.isWord) {
            throw new NoSuchElementException();
        }
        return value.number;
    }

    private Value cellOrNull(int table, int record, int column) {
        Table target = shelf.at(table);
        if (target == null || record < 0 || record >= target.records) {
            return null;
        }
        return column < 0 || column >= target.columns ? null : target.cellAt(record, column);
    }

    private boolean isTable(int names) {
        for (int i = 1; i < names; i++) {
            for (int k = i + 1; k < names; k++) {
                if (namesRead[i] == namesRead[k]) {
                    return false;
                }
            }
        }
        return names >= 2;
    }

    /** A number or a word; cells, variables and results are kept in these and written over. */
    private static final class Value {
        boolean isWord;
        long number;
        String word = "";

        void putNumber(long given) {
            isWord = false;
            number = given;
        }

        void putWord(String given) {
            isWord = true;
            word = given;
        }

        void take(Value other) {
            isWord = other.isWord;
            number = other.number;
            word = other.word;
        }

        boolean isSame(boolean otherIsWord, long otherNumber, String otherWord) {
            if (isWord != otherIsWord) {
                return false;
            }
            return isWord ? word.equals(otherWord) : number == otherNumber;
        }

        boolean isTrue() {
            return isWord ? !word.isEmpty() : number != 0;
        }
    }

    /** The bytes that were typed, and what can be read from a stretch of them. */
    private static final class Text {
        final char[] bytes = new char[MAX_TEXT];
        int length;

        boolean append(long w, int n) {
            if (length + n > MAX_TEXT) {
                return false;
            }
            for (int i = 0; i < n; i++) {
                bytes[length + i] = (char) ((w >>> (8 * i)) & 255);
            }
            length += n;
            return true;
        }

        void clear() {
            length = 0;
        }

        int lettersEnd(int from, int end) {
            int i = from;
            while (i < end && bytes[i] >= 'a' && bytes[i] <= 'z') {
                i++;
            }
            return i;
        }

        int digitsEnd(int from, int end) {
            int i = from;
            while (i < end && isDigit(bytes[i])) {
                i++;
            }
            return i;
        }

        boolean reads(int from, int to, String wanted) {
            if (to - from != wanted.length()) {
                return false;
            }
            for (int i = from; i < to; i++) {
                if (bytes[i] != wanted.charAt(i - from)) {
                    return false;
                }
            }
            return true;
        }

        /** The letters packed into a long, or NO_NAME if there are none, more than eight, or other bytes. */
        long lettersIn(int from, int to) {
            if (to - from > MAX_NAME) {
                return NO_NAME;
            }
            long packed = NO_NAME;
            for (int i = from; i < to; i++) {
                if (bytes[i] < 'a' || bytes[i] > 'z') {
                    return NO_NAME;
                }
                packed = packed << 8 | bytes[i];
            }
            return packed;
        }

        long nameIn(int from, int to) {
            long packed = lettersIn(from, to);
            return isTagWord(packed) ? NO_NAME : packed;
        }

        /** How many names the text has, with one space between; 0 if it is no such text. */
        int readNames(long[] names) {
            int count = 0;
            int from = 0;
            for (int i = 0; i <= length; i++) {
                if (i < length && bytes[i] != ' ') {
                    continue;
                }
                long name = nameIn(from, i);
                if (name == NO_NAME || count == names.length) {
                    return 0;
                }
                names[count] = name;
                count++;
                from = i + 1;
            }
            return count;
        }

        /** How many cells the text has, with one ; between; 0 if it is no such text. */
        int readCells(Value[] cells) {
            int count = 0;
            int from = 0;
            for (int i = 0; i <= length; i++) {
                if (i < length && bytes[i] != ';') {
                    continue;
                }
                if (count == cells.length || !readCell(from, i, cells[count])) {
                    return 0;
                }
                count++;
                from = i + 1;
            }
            return count;
        }

        boolean readCell(int from, int to, Value cell) {
            int digits = from < to && bytes[from] == '-' ? from + 1 : from;
            if (digits < to && to - digits <= MAX_DIGITS && digitsEnd(digits, to) == to) {
                long number = numberIn(digits, to);
                cell.putNumber(digits > from ? -number : number);
                return true;
            }
            if (to - from > MAX_WORD || wordBytesEnd(from, to) < to) {
                return false;
            }
            cell.putWord(textIn(from, to));
            return true;
        }

        int wordBytesEnd(int from, int end) {
            int i = from;
            while (i < end && isWordByte(bytes[i])) {
                i++;
            }
            return i;
        }

        long numberIn(int from, int to) {
            long number = 0;
            for (int i = from; i < to; i++) {
                number = number * 10 + (bytes[i] - '0');
            }
            return number;
        }

        String textIn(int from, int to) {
            if (from >= to) {
                return "";
            }
            char[] copy = new char[to - from];
            for (int i = from; i < to; i++) {
                copy[i - from] = bytes[i];
            }
            return new String(copy);
        }

        static boolean isTagWord(long packed) {
            return packed == TAG_EACH || packed == TAG_END || packed == TAG_IF || packed == TAG_ELSE
                    || packed == TAG_LET;
        }

        static boolean isDigit(char c) {
            return c >= '0' && c <= '9';
        }

        static boolean isWordByte(char c) {
            return c >= 32 && c <= 126 && c != ';' && c != '\'' && c != '}';
        }
    }

    private static final class Table {
        long name;
        final long[] columnNames = new long[MAX_COLUMNS];
        int columns;
        final Value[] cells = new Value[MAX_RECORDS * MAX_COLUMNS];
        int records;

        Table() {
            for (int i = 0; i < MAX_RECORDS * MAX_COLUMNS; i++) {
                cells[i] = new Value();
            }
        }

        /** The first name is the table's, the others are those of its columns. */
        void begin(long[] names, int count) {
            name = names[0];
            columns = count - 1;
            for (int i = 0; i < columns; i++) {
                columnNames[i] = names[i + 1];
            }
        }

        int columnNamed(long wanted) {
            for (int i = 0; i < columns; i++) {
                if (columnNames[i] == wanted) {
                    return i;
                }
            }
            return -1;
        }

        Value cellAt(int record, int column) {
            return cells[record * MAX_COLUMNS + column];
        }

        int add(Value[] given) {
            for (int i = 0; i < columns; i++) {
                cellAt(records, i).take(given[i]);
            }
            records++;
            return records - 1;
        }

        void remove(int record) {
            records--;
            for (int r = record; r < records; r++) {
                for (int i = 0; i < columns; i++) {
                    cellAt(r, i).take(cellAt(r + 1, i));
                }
            }
        }

        /** At most sixteen cells of fifteen digits: the whole always fits a long. */
        long sumOf(int column) {
            long sum = 0;
            for (int r = 0; r < records; r++) {
                Value cell = cellAt(r, column);
                sum += cell.isWord ? 0 : cell.number;
            }
            return sum;
        }
    }

    /** The tables of a desk. */
    private static final class Shelf {
        final Table[] tables = new Table[MAX_TABLES];
        int count;

        Shelf() {
            for (int i = 0; i < MAX_TABLES; i++) {
                tables[i] = new Table();
            }
        }

        Table at(int i) {
            return i < 0 || i >= count ? null : tables[i];
        }

        Table named(long name) {
            for (int i = 0; i < count; i++) {
                if (tables[i].name == name) {
                    return tables[i];
                }
            }
            return null;
        }

        int add(long[] names, int length) {
            tables[count].begin(names, length);
            count++;
            return count - 1;
        }

        int recordsInAll() {
            int sum = 0;
            for (int i = 0; i < count; i++) {
                sum += tables[i].records;
            }
            return sum;
        }
    }

    private enum Function {
        PCT("pct", 2),
        DIV("div", 2),
        MIN("min", 0),
        MAX("max", 0),
        ABS("abs", 1),
        LEN("len", 1),
        EQ("eq", 2),
        LT("lt", 2),
        SUM("sum", 2),
        COUNT("count", 1);

        private static final Function[] ALL = values();

        final String word;
        /** 0: one or more. */
        final int arguments;

        Function(String word, int arguments) {
            this.word = word;
            this.arguments = arguments;
        }

        static Function called(Text text, int from, int to) {
            for (int i = 0; i < ALL.length; i++) {
                if (text.reads(from, to, ALL[i].word)) {
                    return ALL[i];
                }
            }
            return null;
        }
    }

    /**
     * A piece of an EXPR. Terms and factors are kept as a chain, not as a tree that leans to the
     * left: a chain of 250 is worked out in a loop, where the tree would need as many open calls.
     */
    private static final class Expr {
        static final int LITERAL = 0;
        static final int NAME = 1;
        static final int CALL = 2;
        static final int MINUS = 3;
        static final int CHAIN = 4;

        final int kind;
        final Value literal;
        final long name;
        final Function function;
        Expr first;
        /** How many arguments a call has. */
        int arguments;
        Expr next;
        /** The sign that joins this one to the one before it in a chain. */
        char sign;

        Expr(Value literal) {
            kind = LITERAL;
            this.literal = literal;
            name = NO_NAME;
            function = null;
        }

        Expr(long name) {
            kind = NAME;
            literal = null;
            this.name = name;
            function = null;
        }

        Expr(Function function) {
            kind = CALL;
            literal = null;
            name = NO_NAME;
            this.function = function;
        }

        Expr(int kind, Expr first) {
            this.kind = kind;
            literal = null;
            name = NO_NAME;
            function = null;
            this.first = first;
        }
    }

    /** A stretch of plain bytes, or a tag; the end and the else of a block are where its chains end. */
    private static final class Part {
        static final int PLAIN = 0;
        static final int PRINT = 1;
        static final int EACH = 2;
        static final int IF = 3;
        static final int LET = 4;

        final int kind;
        final int place;
        String plain;
        /** The table of an each, the variable of a let. */
        long name;
        long column;
        Expr expr;
        int point;
        int width;
        boolean spacesBehind;
        Part inner;
        Part otherwise;
        Part next;

        Part(int kind, int place) {
            this.kind = kind;
            this.place = place;
        }
    }

    /**
     * Reads a template. Each reading method goes on at place and moves it; where it can't go on it
     * leaves that place in wrong and answers false, null or NO_NAME, and all its callers give up.
     */
    private static final class Compiler {
        Part first;
        int tags;
        boolean stands;

        private Text text;
        private int end;
        private int place;
        private int wrong;
        private final Part[] open = new Part[MAX_OPEN];
        private final boolean[] inElse = new boolean[MAX_OPEN];
        private int openCount;
        private Part last;

        int read(Text source) {
            begin(source);
            boolean goesOn = true;
            for (int parts = 0; parts < MAX_TEMPLATE && goesOn && place < end; parts++) {
                goesOn = isTagHere() ? readTag() : readPlain();
            }
            if (goesOn && (openCount > 0 || text.length > MAX_TEMPLATE)) {
                goesOn = fail(end);
            }
            if (!goesOn) {
                tags = 0;
            }
            stands = goesOn;
            return goesOn ? 0 : wrong + 1;
        }

        private void begin(Text source) {
            text = source;
            end = Math.min(source.length, MAX_TEMPLATE);
            place = 0;
            first = null;
            last = null;
            tags = 0;
            openCount = 0;
        }

        private boolean fail(int at) {
            wrong = at;
            return false;
        }

        private boolean isAt(char c) {
            return place < end && text.bytes[place] == c;
        }

        private boolean pass(char c) {
            if (!isAt(c)) {
                return fail(place);
            }
            place++;
            return true;
        }

        private int digitHere() {
            return place < end && Text.isDigit(text.bytes[place]) ? text.bytes[place] - '0' : -1;
        }

        private boolean isTagHere() {
            return isAt('{') && !isBraceAt(place + 1);
        }

        private boolean isBraceAt(int at) {
            return at < end && text.bytes[at] == '{';
        }

        /** Of {{ only the first is kept, so that the place of each byte is the stretch's and its index. */
        private boolean readPlain() {
            Part part = new Part(Part.PLAIN, place);
            if (isAt('{')) {
                part.plain = "{";
                place += 2;
            } else {
                int to = place;
                while (to < end && text.bytes[to] != '{') {
                    to++;
                }
                part.plain = text.textIn(place, to);
                place = to;
            }
            append(part);
            return true;
        }

        private void append(Part part) {
            if (last != null) {
                last.next = part;
            } else if (openCount == 0) {
                first = part;
            } else if (inElse[openCount - 1]) {
                open[openCount - 1].otherwise = part;
            } else {
                open[openCount - 1].inner = part;
            }
            last = part;
        }

        private void appendBlock(Part part) {
            append(part);
            open[openCount] = part;
            inElse[openCount] = false;
            openCount++;
            last = null;
        }

        private boolean readTag() {
            int start = place;
            if (tags == MAX_TAGS) {
                return fail(start);
            }
            tags++;
            place++;
            int to = text.lettersEnd(place, end);
            long word = text.lettersIn(place, to);
            if (!Text.isTagWord(word)) {
                return readPrint(start);
            }
            place = to;
            if (word == TAG_END) {
                return readEnd(start);
            }
            if (word == TAG_ELSE) {
                return readElse(start);
            }
            if (!pass(' ')) {
                return false;
            }
            if (word == TAG_LET) {
                return readLet(start);
            }
            if (openCount == MAX_OPEN) {
                return fail(start);
            }
            return word == TAG_EACH ? readEach(start) : readIf(start);
        }

        private boolean readEnd(int start) {
            if (!pass('}')) {
                return false;
            }
            if (openCount == 0) {
                return fail(start);
            }
            openCount--;
            last = open[openCount];
            return true;
        }

        private boolean readElse(int start) {
            if (!pass('}')) {
                return false;
            }
            int top = openCount - 1;
            if (top < 0 || open[top].kind != Part.IF || inElse[top]) {
                return fail(start);
            }
            inElse[top] = true;
            last = null;
            return true;
        }

        private boolean readLet(int start) {
            Part part = new Part(Part.LET, start);
            part.name = readName();
            if (part.name == NO_NAME || !pass('=')) {
                return false;
            }
            part.expr = readExpr(1);
            if (part.expr == null || !pass('}')) {
                return false;
            }
            append(part);
            return true;
        }

        private boolean readIf(int start) {
            Part part = new Part(Part.IF, start);
            part.expr = readExpr(1);
            if (part.expr == null || !pass('}')) {
                return false;
            }
            appendBlock(part);
            return true;
        }

        private boolean readEach(int start) {
            Part part = new Part(Part.EACH, start);
            part.name = readName();
            if (part.name == NO_NAME) {
                return false;
            }
            if (!isAt('}')) {
                if (!pass(' ')) {
                    return false;
                }
                part.column = readName();
                if (part.column == NO_NAME || !pass('=')) {
                    return false;
                }
                part.expr = readExpr(1);
                if (part.expr == null) {
                    return false;
                }
            }
            if (!pass('}')) {
                return false;
            }
            appendBlock(part);
            return true;
        }

        private boolean readPrint(int start) {
            Part part = new Part(Part.PRINT, start);
            part.expr = readExpr(1);
            if (part.expr == null || !readPoint(part) || !readWidth(part) || !pass('}')) {
                return false;
            }
            append(part);
            return true;
        }

        private boolean readPoint(Part part) {
            if (!isAt(':')) {
                return true;
            }
            place++;
            int point = digitHere();
            if (point < 1 || point > MAX_POINT) {
                return fail(place);
            }
            part.point = point;
            place++;
            return true;
        }

        private boolean readWidth(Part part) {
            if (!isAt('>') && !isAt('<')) {
                return true;
            }
            part.spacesBehind = isAt('<');
            place++;
            int width = digitHere();
            if (width < 1) {
                return fail(place);
            }
            place++;
            int second = digitHere();
            if (second >= 0) {
                width = 10 * width + second;
                if (width > MAX_WIDTH) {
                    return fail(place);
                }
                place++;
            }
            part.width = width;
            return true;
        }

        private long readName() {
            int to = text.lettersEnd(place, end);
            long name = text.lettersIn(place, to);
            if (name == NO_NAME || Text.isTagWord(name)) {
                fail(place);
                return NO_NAME;
            }
            place = to;
            return name;
        }

        private Expr failExpr(int at) {
            wrong = at;
            return null;
        }

        private Expr readExpr(int depth) {
            Expr term = readTerm(depth);
            if (term == null || !isAt('+') && !isAt('-')) {
                return term;
            }
            Expr chain = new Expr(Expr.CHAIN, term);
            for (int i = 0; i < MAX_TEMPLATE && (isAt('+') || isAt('-')); i++) {
                char sign = text.bytes[place];
                place++;
                Expr following = readTerm(depth);
                if (following == null) {
                    return null;
                }
                following.sign = sign;
                term.next = following;
                term = following;
            }
            return chain;
        }

        private Expr readTerm(int depth) {
            Expr factor = readFactor(depth);
            if (factor == null || !isAt('*')) {
                return factor;
            }
            Expr chain = new Expr(Expr.CHAIN, factor);
            for (int i = 0; i < MAX_TEMPLATE && isAt('*'); i++) {
                place++;
                Expr following = readFactor(depth);
                if (following == null) {
                    return null;
                }
                following.sign = '*';
                factor.next = following;
                factor = following;
            }
            return chain;
        }

        private Expr readFactor(int depth) {
            if (digitHere() >= 0) {
                return readDigits();
            }
            if (isAt('\'')) {
                return readQuoted();
            }
            if (isAt('(')) {
                return readBrackets(depth);
            }
            if (isAt('-')) {
                return readMinus(depth);
            }
            return readNameOrCall(depth);
        }

        private Expr readDigits() {
            int to = text.digitsEnd(place, end);
            if (to - place > MAX_DIGITS) {
                return failExpr(place);
            }
            Value value = new Value();
            value.putNumber(text.numberIn(place, to));
            place = to;
            return new Expr(value);
        }

        private Expr readQuoted() {
            int from = place + 1;
            int to = text.wordBytesEnd(from, end);
            boolean isEnded = to == end || text.bytes[to] == '\'';
            if (to - from > MAX_WORD || !isEnded) {
                return failExpr(place);
            }
            if (to == end) {
                return failExpr(end);
            }
            Value value = new Value();
            value.putWord(text.textIn(from, to));
            place = to + 1;
            return new Expr(value);
        }

        /** Brackets stay a node of their own, for a name in them is no name alone. */
        private Expr readBrackets(int depth) {
            if (depth == MAX_DEPTH) {
                return failExpr(place);
            }
            place++;
            Expr inner = readExpr(depth + 1);
            if (inner == null || !pass(')')) {
                return null;
            }
            return new Expr(Expr.CHAIN, inner);
        }

        private Expr readMinus(int depth) {
            if (depth == MAX_DEPTH) {
                return failExpr(place);
            }
            place++;
            Expr inner = readFactor(depth + 1);
            return inner == null ? null : new Expr(Expr.MINUS, inner);
        }

        private Expr readNameOrCall(int depth) {
            int from = place;
            long name = readName();
            if (name == NO_NAME) {
                return null;
            }
            if (!isAt('(')) {
                return new Expr(name);
            }
            if (depth == MAX_DEPTH) {
                return failExpr(place);
            }
            return readArguments(new Expr(Function.called(text, from, place)), depth);
        }

        private Expr readArguments(Expr call, int depth) {
            place++;
            Expr argument = readExpr(depth + 1);
            call.first = argument;
            call.arguments = 1;
            for (int i = 0; i < MAX_TEMPLATE && argument != null && isAt(','); i++) {
                place++;
                argument.next = readExpr(depth + 1);
                argument = argument.next;
                call.arguments++;
            }
            return argument != null && pass(')') ? call : null;
        }
    }

    /** What a name in an EXPR stands for: a cell of an open loop's record, or a variable. */
    private static final class Scope {
        final Value[] wanted = new Value[MAX_OPEN];
        int variables;

        private final Table[] tables = new Table[MAX_OPEN];
        private final int[] records = new int[MAX_OPEN];
        private int open;
        private final long[] names = new long[MAX_TAGS];
        private final Value[] values = new Value[MAX_TAGS];

        Scope() {
            for (int i = 0; i < MAX_OPEN; i++) {
                wanted[i] = new Value();
            }
            for (int i = 0; i < MAX_TAGS; i++) {
                values[i] = new Value();
            }
        }

        void clear() {
            open = 0;
            variables = 0;
        }

        /** Loops nest no deeper than the compiler let them. */
        int openLoop(Table table) {
            tables[open] = table;
            open++;
            return open - 1;
        }

        void stand(int loop, int record) {
            records[loop] = record;
        }

        void closeLoop() {
            open--;
        }

        Value named(long name) {
            for (int i = open - 1; i >= 0; i--) {
                int column = tables[i].columnNamed(name);
                if (column >= 0) {
                    return tables[i].cellAt(records[i], column);
                }
            }
            return variableNamed(name);
        }

        Value variableNamed(long name) {
            for (int i = 0; i < variables; i++) {
                if (names[i] == name) {
                    return values[i];
                }
            }
            return null;
        }

        /** There is room for all: each variable has a let tag of its own. */
        void let(long name, Value value) {
            Value kept = variableNamed(name);
            if (kept == null) {
                kept = values[variables];
                names[variables] = name;
                variables++;
            }
            kept.take(value);
        }
    }

    /** Works out an EXPR: the answer is the fault, or FINE with the value in result. */
    private static final class Evaluator {
        final Scope scope = new Scope();
        final Value result = new Value();
        private Shelf shelf;

        void begin(Shelf given) {
            shelf = given;
            scope.clear();
        }

        int work(Expr expr) {
            switch (expr.kind) {
                case Expr.LITERAL:
                    result.take(expr.literal);
                    return FINE;
                case Expr.NAME:
                    return workName(expr.name);
                case Expr.CALL:
                    return workCall(expr);
                case Expr.MINUS:
                    return workMinus(expr.first);
                default:
                    return expr.first.next == null ? work(expr.first) : workChain(expr.first);
            }
        }

        private int workNumber(Expr expr) {
            int fault = work(expr);
            if (fault != FINE) {
                return fault;
            }
            return result.isWord ? WRONG_KIND : FINE;
        }

        private int workName(long name) {
            Value value = scope.named(name);
            if (value == null) {
                return NOTHING_NAMED;
            }
            result.take(value);
            return FINE;
        }

        private int workMinus(Expr inner) {
            int fault = workNumber(inner);
            return fault == FINE ? settle(-result.number) : fault;
        }

        private int workChain(Expr first) {
            int fault = workNumber(first);
            for (Expr part = first.next; part != null && fault == FINE; part = part.next) {
                long before = result.number;
                fault = workNumber(part);
                if (fault == FINE) {
                    fault = join(before, part.sign, result.number);
                }
            }
            return fault;
        }

        private int join(long x, char sign, long y) {
            if (sign == '*') {
                return isProductBeyond(x, y, MAX_NUMBER) ? OUT_OF_RANGE : settle(x * y);
            }
            return settle(sign == '+' ? x + y : x - y);
        }

        private int settle(long number) {
            if (number > MAX_NUMBER || number < -MAX_NUMBER) {
                return OUT_OF_RANGE;
            }
            result.putNumber(number);
            return FINE;
        }

        /** Divides, for the product itself may be more than a long holds. */
        private static boolean isProductBeyond(long x, long y, long limit) {
            return x != 0 && Math.abs(y) > limit / Math.abs(x);
        }

        private int workCall(Expr call) {
            Function function = call.function;
            if (function == null || function.arguments != 0 && function.arguments != call.arguments) {
                return NOTHING_NAMED;
            }
            switch (function) {
                case LEN:
                    return workLength(call.first);
                case EQ:
                    return workSame(call.first, call.first.next);
                case SUM:
                    return workSum(call.first, call.first.next);
                case COUNT:
                    return workCount(call.first);
                default:
                    return workNumbers(function, call.first);
            }
        }

        private int workLength(Expr argument) {
            int fault = work(argument);
            if (fault != FINE) {
                return fault;
            }
            if (!result.isWord) {
                return WRONG_KIND;
            }
            result.putNumber(result.word.length());
            return FINE;
        }

        private int workSame(Expr one, Expr other) {
            int fault = work(one);
            if (fault != FINE) {
                return fault;
            }
            boolean isWord = result.isWord;
            long number = result.number;
            String word = result.word;
            fault = work(other);
            if (fault != FINE) {
                return fault;
            }
            result.putNumber(result.isSame(isWord, number, word) ? 1 : 0);
            return FINE;
        }

        private Table tableOf(Expr argument) {
            return argument.kind == Expr.NAME ? shelf.named(argument.name) : null;
        }

        private int workSum(Expr tableName, Expr columnName) {
            Table table = tableOf(tableName);
            if (table == null || columnName.kind != Expr.NAME) {
                return NOTHING_NAMED;
            }
            int column = table.columnNamed(columnName.name);
            return column < 0 ? NOTHING_NAMED : settle(table.sumOf(column));
        }

        private int workCount(Expr tableName) {
            Table table = tableOf(tableName);
            if (table == null) {
                return NOTHING_NAMED;
            }
            result.putNumber(table.records);
            return FINE;
        }

        private int workNumbers(Function function, Expr first) {
            int fault = workNumber(first);
            if (fault == FINE && function == Function.ABS) {
                result.putNumber(Math.abs(result.number));
            }
            for (Expr part = first.next; part != null && fault == FINE; part = part.next) {
                long before = result.number;
                fault = workNumber(part);
                if (fault == FINE) {
                    fault = apply(function, before, result.number);
                }
            }
            return fault;
        }

        private int apply(Function function, long x, long y) {
            switch (function) {
                case PCT:
                    return isProductBeyond(x, y, MAX_PRODUCT) ? OUT_OF_RANGE : settle(hundredthOf(x * y));
                case DIV:
                    return y == 0 ? OUT_OF_RANGE : settle(x / y);
                case MIN:
                    return settle(Math.min(x, y));
                case MAX:
                    return settle(Math.max(x, y));
                default:
                    return settle(x < y ? 1 : 0);
            }
        }

        private static long hundredthOf(long product) {
            long whole = product / 100;
            long rest = Math.abs(product % 100);
            boolean isAway = rest > 50 || rest == 50 && whole % 2 != 0;
            if (!isAway) {
                return whole;
            }
            return product < 0 ? whole - 1 : whole + 1;
        }
    }

    /** Merges a template: each method answers the fault, or FINE; place is where a fault would be. */
    private static final class Merger {
        final Evaluator evaluator = new Evaluator();
        final char[] bytes = new char[MAX_OUT];
        int length;
        int done;

        private Shelf shelf;
        private int place;
        /** What a tag prints, at the end of this row; 10^15 with sign and point needs 18. */
        private final char[] shown = new char[MAX_WIDTH];
        private int shownFrom;

        int run(Part first, Shelf given) {
            shelf = given;
            evaluator.begin(given);
            length = 0;
            done = 0;
            int fault = mergeChain(first);
            return fault == FINE ? length : -(FAULT_UNIT * fault + place);
        }

        private int mergeChain(Part first) {
            int fault = FINE;
            for (Part part = first; part != null && fault == FINE; part = part.next) {
                place = part.place;
                fault = part.kind == Part.PLAIN ? putPlain(part.plain) : mergeTag(part);
            }
            return fault;
        }

        private int mergeTag(Part part) {
            if (done == MAX_DONE) {
                return TOO_MANY_TAGS;
            }
            done++;
            if (part.kind == Part.EACH) {
                return mergeEach(part);
            }
            int fault = evaluator.work(part.expr);
            if (fault != FINE) {
                return fault;
            }
            switch (part.kind) {
                case Part.IF:
                    return mergeChain(evaluator.result.isTrue() ? part.inner : part.otherwise);
                case Part.LET:
                    evaluator.scope.let(part.name, evaluator.result);
                    return FINE;
                default:
                    return print(part, evaluator.result);
            }
        }

        private int mergeEach(Part part) {
            Table table = shelf.named(part.name);
            if (table == null) {
                return NOTHING_NAMED;
            }
            if (part.expr == null) {
                return mergeRecords(part, table, -1);
            }
            int column = table.columnNamed(part.column);
            if (column < 0) {
                return NOTHING_NAMED;
            }
            int fault = evaluator.work(part.expr);
            return fault == FINE ? mergeRecords(part, table, column) : fault;
        }

        /** The wanted value is still in the evaluator's result; a column below 0 wants all records. */
        private int mergeRecords(Part part, Table table, int column) {
            Scope scope = evaluator.scope;
            int loop = scope.openLoop(table);
            Value wanted = scope.wanted[loop];
            wanted.take(evaluator.result);
            int fault = FINE;
            for (int record = 0; record < table.records && fault == FINE; record++) {
                if (column < 0
                        || table.cellAt(record, column).isSame(wanted.isWord, wanted.number, wanted.word)) {
                    scope.stand(loop, record);
                    fault = mergeChain(part.inner);
                }
            }
            scope.closeLoop();
            return fault;
        }

        private int putPlain(String plain) {
            int start = place;
            for (int i = 0; i < plain.length(); i++) {
                place = start + i;
                if (!put(plain.charAt(i))) {
                    return TOO_LONG;
                }
            }
            return FINE;
        }

        private boolean put(char c) {
            if (length == MAX_OUT) {
                return false;
            }
            bytes[length] = c;
            length++;
            return true;
        }

        private int print(Part part, Value value) {
            if (value.isWord && part.point > 0) {
                return WRONG_KIND;
            }
            if (value.isWord) {
                showWord(value.word);
            } else {
                showNumber(value.number, part.point);
            }
            int spaces = part.width - (MAX_WIDTH - shownFrom);
            boolean fits = part.spacesBehind ? putShown() && putSpaces(spaces) : putSpaces(spaces) && putShown();
            return fits ? FINE : TOO_LONG;
        }

        private void showWord(String word) {
            shownFrom = MAX_WIDTH - word.length();
            for (int i = 0; i < word.length(); i++) {
                shown[shownFrom + i] = word.charAt(i);
            }
        }

        private void showNumber(long number, int point) {
            long rest = Math.abs(number);
            shownFrom = MAX_WIDTH;
            for (int digits = 0; digits <= MAX_DIGITS && (digits <= point || rest > 0); digits++) {
                if (digits == point && point > 0) {
                    show('.');
                }
                show((char) ('0' + rest % 10));
                rest /= 10;
            }
            if (number < 0) {
                show('-');
            }
        }

        private void show(char c) {
            shownFrom--;
            shown[shownFrom] = c;
        }

        private boolean putShown() {
            boolean fits = true;
            for (int i = shownFrom; i < MAX_WIDTH && fits; i++) {
                fits = put(shown[i]);
            }
            return fits;
        }

        private boolean putSpaces(int count) {
            boolean fits = true;
            for (int i = 0; i < count && fits; i++) {
                fits = put(' ');
            }
            return fits;
        }
    }
}
