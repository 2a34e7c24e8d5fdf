import java.math.BigInteger;
import java.util.ArrayList;
import java.util.HashSet;
import java.util.LinkedHashMap;
import java.util.List;
import java.util.Map;
import java.util.NoSuchElementException;
import java.util.Set;
import java.util.regex.Matcher;
import java.util.regex.Pattern;

/**
 * The document once more, written with the whole Java library and in another way than the program
 * (regular expressions, exceptions, closures, big numbers), so that the two can be compared.
 */
final class Model {
    private static final BigInteger MOST = BigInteger.TEN.pow(15);
    private static final Pattern NAME = Pattern.compile("(?!(?:each|end|if|else|let)\\z)[a-z]{1,8}");
    private static final Pattern NUMBER = Pattern.compile("-?[0-9]{1,15}");
    private static final Pattern WORD = Pattern.compile("[ -~&&[^;'}]]{0,12}");

    /** A place at which compiling can't go on. */
    private static final class Wrong extends RuntimeException {
        private static final long serialVersionUID = 1L;
        final int place;

        Wrong(int place) {
            super(null, null, false, false);
            this.place = place;
        }
    }

    private static final class Fault extends RuntimeException {
        private static final long serialVersionUID = 1L;
        final int kind;

        Fault(int kind) {
            super(null, null, false, false);
            this.kind = kind;
        }
    }

    /** Values are BigInteger or String. */
    private interface Formula {
        Object work();
    }

    private record Node(Formula formula, String nameAlone) {
    }

    private interface Step {
        void go();
    }

    private static final class Sheet {
        final String name;
        final List<String> columns;
        final List<Object[]> rows = new ArrayList<>();

        Sheet(String name, List<String> columns) {
            this.name = name;
            this.columns = columns;
        }
    }

    private record Loop(Sheet sheet, Object[] row) {
    }

    private String text = "";
    private final List<Sheet> sheets = new ArrayList<>();
    private List<Step> template;
    private int tags;
    private StringBuilder out = new StringBuilder();
    private Map<String, Object> variables = new LinkedHashMap<>();
    private int done;
    private int at;
    private final List<Loop> loops = new ArrayList<>();

    private String taken() {
        String was = text;
        text = "";
        return was;
    }

    boolean type(long w, int n) {
        if (n < 1 || n > 8 || text.length() + n > 600) {
            return false;
        }
        for (int i = 0; i < n; i++) {
            text += (char) (w >> 8 * i & 0xff);
        }
        return true;
    }

    int table() {
        String[] names = taken().split(" ", -1);
        Set<String> columns = new HashSet<>();
        for (int i = 0; i < names.length; i++) {
            if (!NAME.matcher(names[i]).matches() || i > 0 && !columns.add(names[i])) {
                throw new IllegalArgumentException();
            }
        }
        if (names.length < 2 || names.length > 7 || sheet(names[0]) != null) {
            throw new IllegalArgumentException();
        }
        if (sheets.size() == 4) {
            throw new UnsupportedOperationException();
        }
        sheets.add(new Sheet(names[0], List.of(names).subList(1, names.length)));
        return sheets.size() - 1;
    }

    private Sheet sheet(String name) {
        for (Sheet s : sheets) {
            if (s.name.equals(name)) {
                return s;
            }
        }
        return null;
    }

    private static Object value(String cell) {
        if (NUMBER.matcher(cell).matches()) {
            return new BigInteger(cell);
        }
        if (WORD.matcher(cell).matches()) {
            return cell;
        }
        throw new IllegalArgumentException();
    }

    int record(int table) {
        String[] cells = taken().split(";", -1);
        Sheet s = sheets.get(table < 0 ? 99 : table);
        Object[] row = new Object[cells.length];
        for (int i = 0; i < cells.length; i++) {
            row[i] = value(cells[i]);
        }
        if (row.length != s.columns.size()) {
            throw new IllegalArgumentException();
        }
        if (s.rows.size() == 16) {
            throw new UnsupportedOperationException();
        }
        s.rows.add(row);
        return s.rows.size() - 1;
    }

    private Object[] row(int table, int record, int column) {
        Sheet s = sheets.get(table < 0 ? 99 : table);
        Object[] row = s.rows.get(record < 0 ? 99 : record);
        if (column < 0 || column >= row.length) {
            throw new IndexOutOfBoundsException();
        }
        return row;
    }

    void cell(int table, int record, int column) {
        String cell = taken();
        row(table, record, column)[column] = value(cell);
    }

    void drop(int table, int record) {
        row(table, record, 0);
        sheets.get(table).rows.remove(record);
    }

    long number(int table, int record, int column) {
        if (row(table, record, column)[column] instanceof BigInteger n) {
            return n.longValue();
        }
        throw new NoSuchElementException();
    }

    int size() {
        return out.length();
    }

    int out(int i) {
        if (i < 0 || i >= out.length()) {
            throw new IndexOutOfBoundsException();
        }
        return out.charAt(i);
    }

    long variable() {
        if (variables.get(taken()) instanceof BigInteger n) {
            return n.longValue();
        }
        throw new NoSuchElementException();
    }

    int about(int what) {
        int records = 0;
        for (Sheet s : sheets) {
            records += s.rows.size();
        }
        int[] all = {sheets.size(), records, tags, done, variables.size()};
        if (what < 0 || what >= all.length) {
            throw new IndexOutOfBoundsException();
        }
        return all[what];
    }

    // ---- compiling ----

    private String source;
    private int p;

    int compile() {
        String whole = taken();
        source = whole.substring(0, Math.min(500, whole.length()));
        p = 0;
        tags = 0;
        template = null;
        try {
            List<Step> steps = new ArrayList<>();
            if (readSteps(steps, 0, "") != null || whole.length() > 500) {
                throw new Wrong(source.length());
            }
            template = steps;
            return 0;
        } catch (Wrong wrong) {
            tags = 0;
            return wrong.place + 1;
        }
    }

    private char look() {
        return p < source.length() ? source.charAt(p) : '\uffff';
    }

    private void must(char c) {
        if (look() != c) {
            throw new Wrong(p);
        }
        p++;
    }

    private boolean may(char c) {
        if (look() != c) {
            return false;
        }
        p++;
        return true;
    }

    private String run(String pattern) {
        Matcher m = Pattern.compile(pattern).matcher(source);
        m.region(p, source.length());
        return m.lookingAt() ? m.group() : "";
    }

    /** Reads until the END (null) or until an end or else that belongs to the block: that word. */
    private String readSteps(List<Step> into, int open, String block) {
        while (p < source.length()) {
            int start = p;
            char c = look();
            if (c != '{' || source.startsWith("{{", p)) {
                p += c == '{' ? 2 : 1;
                into.add(() -> {
                    at = start;
                    put("" + c);
                });
                continue;
            }
            if (tags >= 120) {
                throw new Wrong(p);
            }
            tags++;
            p++;
            String letters = run("[a-z]+");
            switch (letters) {
                case "end", "else" -> {
                    p += letters.length();
                    must('}');
                    boolean belongs = letters.equals("end") ? open > 0 : block.equals("if");
                    if (!belongs) {
                        throw new Wrong(start);
                    }
                    return letters;
                }
                case "each", "if", "let" -> {
                    p += letters.length();
                    must(' ');
                    if (!letters.equals("let") && open == 6) {
                        throw new Wrong(start);
                    }
                    into.add(letters.equals("let") ? readLet(start)
                            : letters.equals("if") ? readIf(start, open) : readEach(start, open));
                }
                default -> into.add(readPrint(start));
            }
        }
        return open > 0 ? "" : null;
    }

    private String readName() {
        String letters = run("[a-z]+");
        if (!NAME.matcher(letters).matches()) {
            throw new Wrong(p);
        }
        p += letters.length();
        return letters;
    }

    private Step readLet(int start) {
        String name = readName();
        must('=');
        Node node = readExpr(1);
        must('}');
        return () -> {
            begin(start);
            variables.put(name, node.formula.work());
        };
    }

    private Step readIf(int start, int open) {
        Node node = readExpr(1);
        must('}');
        List<Step> yes = new ArrayList<>();
        List<Step> no = new ArrayList<>();
        String ended = readSteps(yes, open + 1, "if");
        if (ended.equals("else")) {
            ended = readSteps(no, open + 1, "else");
        }
        if (!ended.equals("end")) {
            throw new Wrong(source.length());
        }
        return () -> {
            begin(start);
            Object value = node.formula.work();
            boolean holds = !value.equals("") && !value.equals(BigInteger.ZERO);
            (holds ? yes : no).forEach(Step::go);
        };
    }

    private Step readEach(int start, int open) {
        String table = readName();
        String column;
        Node node;
        if (look() == '}') {
            column = null;
            node = null;
        } else {
            must(' ');
            column = readName();
            must('=');
            node = readExpr(1);
        }
        must('}');
        List<Step> inner = new ArrayList<>();
        if (!readSteps(inner, open + 1, "each").equals("end")) {
            throw new Wrong(source.length());
        }
        return () -> {
            begin(start);
            Sheet s = known(sheet(table));
            int c = column == null ? -1 : index(s, column);
            Object wanted = node == null ? null : node.formula.work();
            for (Object[] row : s.rows) {
                if (wanted == null || row[c].equals(wanted)) {
                    loops.add(new Loop(s, row));
                    inner.forEach(Step::go);
                    loops.remove(loops.size() - 1);
                }
            }
        };
    }

    private Step readPrint(int start) {
        Node node = readExpr(1);
        int point = 0;
        if (may(':')) {
            point = readDigit("[1-4]");
        }
        char side = look();
        int width = 0;
        if (may('>') || may('<')) {
            width = readDigit("[1-9]");
            if (!run("[0-9]").isEmpty()) {
                width = 10 * width + look() - '0';
                if (width > 20) {
                    throw new Wrong(p);
                }
                p++;
            }
        }
        must('}');
        int digits = point;
        String format = width == 0 ? "%s" : side == '>' ? "%" + width + "s" : "%-" + width + "s";
        return () -> {
            begin(start);
            Object value = node.formula.work();
            if (digits > 0) {
                value = new java.math.BigDecimal(number(value), digits).toPlainString();
            }
            put(String.format(format, value));
        };
    }

    private int readDigit(String pattern) {
        String digit = run(pattern);
        if (digit.isEmpty()) {
            throw new Wrong(p);
        }
        p++;
        return Integer.parseInt(digit);
    }

    private Node readExpr(int deep) {
        Node left = readTerm(deep);
        while (look() == '+' || look() == '-') {
            boolean plus = source.charAt(p++) == '+';
            Formula x = left.formula;
            Formula y = readTerm(deep).formula;
            left = new Node(() -> {
                BigInteger a = number(x.work());
                BigInteger b = number(y.work());
                return ranged(plus ? a.add(b) : a.subtract(b));
            }, null);
        }
        return left;
    }

    private Node readTerm(int deep) {
        Node left = readFactor(deep);
        while (may('*')) {
            Formula x = left.formula;
            Formula y = readFactor(deep).formula;
            left = new Node(() -> {
                BigInteger a = number(x.work());
                return ranged(a.multiply(number(y.work())));
            }, null);
        }
        return left;
    }

    private void deeper(int deep) {
        if (deep + 1 > 8) {
            throw new Wrong(p);
        }
        p++;
    }

    private Node readFactor(int deep) {
        String digits = run("[0-9]+");
        if (!digits.isEmpty()) {
            if (digits.length() > 15) {
                throw new Wrong(p);
            }
            p += digits.length();
            BigInteger n = new BigInteger(digits);
            return new Node(() -> n, null);
        }
        switch (look()) {
            case '\'':
                return readQuoted();
            case '(':
                deeper(deep);
                Formula in = readExpr(deep + 1).formula;
                must(')');
                return new Node(in, null);
            case '-':
                deeper(deep);
                Formula behind = readFactor(deep + 1).formula;
                return new Node(() -> number(behind.work()).negate(), null);
            default:
                String name = readName();
                return look() == '(' ? readCall(name, deep) : new Node(() -> named(name), name);
        }
    }

    private Node readQuoted() {
        int next = source.indexOf('\'', p + 1);
        String word = source.substring(p + 1, next < 0 ? source.length() : next);
        if (!WORD.matcher(word).matches()) {
            throw new Wrong(p);
        }
        if (next < 0) {
            throw new Wrong(source.length());
        }
        p = next + 1;
        return new Node(() -> word, null);
    }

    private Node readCall(String name, int deep) {
        deeper(deep);
        List<Node> arguments = new ArrayList<>();
        do {
            arguments.add(readExpr(deep + 1));
        } while (may(','));
        must(')');
        return new Node(() -> call(name, arguments), null);
    }

    // ---- merging ----

    int merge() {
        if (template == null) {
            throw new IllegalStateException();
        }
        out = new StringBuilder();
        variables = new LinkedHashMap<>();
        done = 0;
        loops.clear();
        try {
            template.forEach(Step::go);
            return out.length();
        } catch (Fault fault) {
            return -(10000 * fault.kind + at);
        }
    }

    private void begin(int start) {
        at = start;
        if (done == 3000) {
            throw new Fault(5);
        }
        done++;
    }

    private void put(String s) {
        out.append(s);
        if (out.length() > 4000) {
            out.setLength(4000);
            throw new Fault(4);
        }
    }

    private static <T> T known(T found) {
        if (found == null) {
            throw new Fault(1);
        }
        return found;
    }

    private static int index(Sheet s, String column) {
        int i = s.columns.indexOf(column);
        return known(i < 0 ? null : i);
    }

    private Object named(String name) {
        for (int i = loops.size() - 1; i >= 0; i--) {
            int c = loops.get(i).sheet.columns.indexOf(name);
            if (c >= 0) {
                return loops.get(i).row[c];
            }
        }
        return known(variables.get(name));
    }

    private static BigInteger number(Object value) {
        if (value instanceof BigInteger n) {
            return n;
        }
        throw new Fault(2);
    }

    private static BigInteger ranged(BigInteger n) {
        if (n.abs().compareTo(MOST) > 0) {
            throw new Fault(3);
        }
        return n;
    }

    private Object call(String name, List<Node> given) {
        Map<String, Integer> arity = Map.of("pct", 2, "div", 2, "min", given.size(), "max", given.size(), "abs", 1,
                "len", 1, "eq", 2, "lt", 2, "sum", 2, "count", 1);
        if (known(arity.get(name)) != given.size()) {
            throw new Fault(1);
        }
        switch (name) {
            case "count":
                return BigInteger.valueOf(known(sheet(known(given.get(0).nameAlone))).rows.size());
            case "sum":
                Sheet s = known(sheet(known(given.get(0).nameAlone)));
                int c = index(s, known(given.get(1).nameAlone));
                BigInteger sum = BigInteger.ZERO;
                for (Object[] row : s.rows) {
                    sum = row[c] instanceof BigInteger n ? sum.add(n) : sum;
                }
                return ranged(sum);
            case "len":
                if (given.get(0).formula.work() instanceof String w) {
                    return BigInteger.valueOf(w.length());
                }
                throw new Fault(2);
            case "eq":
                Object a = given.get(0).formula.work();
                return a.equals(given.get(1).formula.work()) ? BigInteger.ONE : BigInteger.ZERO;
            default:
                List<BigInteger> numbers = new ArrayList<>();
                for (Node node : given) {
                    numbers.add(number(node.formula.work()));
                }
                return callNumbers(name, numbers);
        }
    }

    private static BigInteger callNumbers(String name, List<BigInteger> n) {
        BigInteger x = n.get(0);
        BigInteger y = n.get(n.size() - 1);
        switch (name) {
            case "min":
                return n.stream().min(BigInteger::compareTo).get();
            case "max":
                return n.stream().max(BigInteger::compareTo).get();
            case "abs":
                return x.abs();
            case "lt":
                return x.compareTo(y) < 0 ? BigInteger.ONE : BigInteger.ZERO;
            case "div":
                if (y.signum() == 0) {
                    throw new Fault(3);
                }
                return x.divide(y);
            default:
                BigInteger product = x.multiply(y);
                if (product.abs().compareTo(BigInteger.TEN.pow(17)) > 0) {
                    throw new Fault(3);
                }
                return new java.math.BigDecimal(product, 2).setScale(0, java.math.RoundingMode.HALF_EVEN)
                        .toBigIntegerExact();
        }
    }
}
