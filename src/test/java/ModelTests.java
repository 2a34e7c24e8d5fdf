import java.util.Random;

/** Runs of random calls, always the same ones, on a desk and on the model: they must answer alike. */
public final class ModelTests {
    private static final String[] TABLES = {"t", "u", "t", "u", "t", "u", "a", "abcdefgh", "nope"};
    private static final String[] NAMES = {"a", "b", "no", "a", "b", "no", "x", "abcdefgh", "t", "nope"};
    private static final String[] FUNCTIONS = {"pct", "div", "min", "max", "abs", "len", "eq", "lt", "sum", "count", "f"};
    private static final String[] NUMBERS = {"0", "1", "2", "7", "50", "150", "99", "100", "12345", "10000000",
        "100000000", "999999999999999", "500000000000000", "007"};
    private static final String[] WORDS = {"", "a", "b", "1", "Pen", "abcdefghijkl", "{x", " "};
    /** What later calls of an object answer is free. */
    private static final int MOST_CALLS = 512;
    private static final String NOISE = "{}(){}'':;,+-*<>= 09az}{ABC\n\u0000\u0080\u00ff";

    private final Random random;
    private final MergeDesk desk = new MergeDesk();
    private final Model model = new Model();
    private int calls;
    private static final int[] KINDS = new int[7];
    private static int refused;

    /** The object's last call was made. */
    private static final class EndOfRun extends RuntimeException {
        private static final long serialVersionUID = 1L;

        EndOfRun() {
            super(null, null, false, false);
        }
    }

    private ModelTests(long seed) {
        random = new Random(seed);
    }

    public static void main(String[] args) {
        int runs = args.length > 0 ? Integer.parseInt(args[0]) : 6000;
        long first = args.length > 1 ? Long.parseLong(args[1]) : 1;
        for (int i = 0; i < runs; i++) {
            new ModelTests(first + i).run(first + i);
        }
        System.out.print("merges without a fault and with the faults 1 to 5:");
        for (int i = 0; i <= 5; i++) {
            System.out.print(" " + KINDS[i]);
            Check.due("merges of kind " + i, true, KINDS[i] > 0 || runs < 1000);
        }
        System.out.println("; templates that were refused: " + refused);
        Check.end();
    }

    private void run(long seed) {
        String run = "run " + seed;
        int tables = random.nextInt(5);
        try {
            for (int i = 0; i < tables; i++) {
                tell(run);
            }
            while (true) {
                oneCall(run);
            }
        } catch (EndOfRun end) {
            Check.due(run + " has so many calls", MOST_CALLS, calls);
        }
    }

    /** A table that is likely to be good, and some records. */
    private void tell(String run) {
        StringBuilder text = new StringBuilder(pick(TABLES));
        int columns = 1 + random.nextInt(3);
        int shift = random.nextInt(3) == 0 ? 1 : 0;
        for (int i = 0; i < columns; i++) {
            text.append(' ').append(NAMES[i + shift]);
        }
        type(run, text.toString());
        same(run, "table", desk::table, model::table);
        int table = model.about(0) - 1;
        int records = random.nextInt(4) == 0 ? 17 : random.nextInt(5);
        for (int i = 0; i < records; i++) {
            type(run, cells(columns));
            same(run, "record", () -> desk.record(table), () -> model.record(table));
        }
    }

    private String cells(int columns) {
        StringBuilder text = new StringBuilder();
        for (int i = 0; i < columns; i++) {
            text.append(i > 0 ? ";" : "").append(random.nextInt(5) > 0 ? cellNumber() : pick(WORDS));
        }
        return text.toString();
    }

    private String cellNumber() {
        return (random.nextInt(4) == 0 ? "-" : "") + pick(NUMBERS);
    }

    private void oneCall(String run) {
        int table = random.nextInt(5) - (random.nextInt(9) == 0 ? 1 : 0);
        int record = random.nextInt(6) - (random.nextInt(9) == 0 ? 1 : 0);
        int column = random.nextInt(4) - (random.nextInt(9) == 0 ? 1 : 0);
        switch (random.nextInt(24)) {
            case 0:
                if (random.nextInt(6) > 0) {
                    break;
                }
                long w = random.nextLong();
                int n = random.nextInt(11) - 1;
                same(run, "type", () -> desk.type(w, n), () -> model.type(w, n));
                break;
            case 1:
                type(run, random.nextInt(4) == 0 ? noise(20) : cells(1 + random.nextInt(3)));
                same(run, "record", () -> desk.record(table), () -> model.record(table));
                break;
            case 2:
                type(run, random.nextInt(4) == 0 ? noise(3) : cells(1));
                same(run, "cell", () -> {
                    desk.cell(table, record, column);
                    return "void";
                }, () -> {
                    model.cell(table, record, column);
                    return "void";
                });
                break;
            case 3:
                same(run, "drop", () -> {
                    desk.drop(table, record);
                    return "void";
                }, () -> {
                    model.drop(table, record);
                    return "void";
                });
                break;
            case 4:
                same(run, "number", () -> desk.number(table, record, column), () -> model.number(table, record, column));
                break;
            case 5:
                type(run, random.nextInt(5) == 0 ? noise(9) : pick(NAMES));
                same(run, "variable", desk::variable, model::variable);
                break;
            case 6:
                tell(run);
                break;
            case 7:
                int i = random.nextInt(300) - 2;
                same(run, "out", () -> desk.out(i), () -> model.out(i));
                break;
            default:
                compileAndMerge(run);
        }
        for (int what = -1; what <= 5; what++) {
            int which = what;
            same(run, "about " + what, () -> desk.about(which), () -> model.about(which));
        }
    }

    private void compileAndMerge(String run) {
        int kind = random.nextInt(12);
        String template = kind == 0 ? noise(40) : kind == 1 ? deepLoops() : damaged(template());
        type(run, template);
        String where = run + " " + template;
        if (same(where, "compile", desk::compile, model::compile) != 0) {
            refused++;
        }
        long answer = same(where, "merge", desk::merge, model::merge);
        KINDS[answer >= 0 ? 0 : answer == Long.MIN_VALUE ? 6 : (int) (-answer / 10000)]++;
        same(where, "size", desk::size, model::size);
        int size = model.size();
        for (int i = 0; i < size; i++) {
            int at = i;
            if (i < 40 || i >= size - 40) {
                same(where, "out " + i, () -> desk.out(at), () -> model.out(at));
            }
        }
    }

    private long same(String run, String call, Check.Call program, Check.Call due) {
        if (calls == MOST_CALLS) {
            throw new EndOfRun();
        }
        calls++;
        String want = Check.answer(due);
        Check.due(run + " " + call, want, Check.answer(program));
        return want.matches("-?[0-9]+") ? Long.parseLong(want) : Long.MIN_VALUE;
    }

    private void type(String run, String text) {
        for (int from = 0; from < text.length(); from += 8) {
            int n = Math.min(8, text.length() - from);
            long w = Check.packed(text, from, n);
            same(run, "type", () -> desk.type(w, n), () -> model.type(w, n));
        }
    }

    private String pick(String[] from) {
        return from[random.nextInt(from.length)];
    }

    private String noise(int most) {
        StringBuilder text = new StringBuilder();
        int length = random.nextInt(most + 1);
        for (int i = 0; i < length; i++) {
            text.append(NOISE.charAt(random.nextInt(NOISE.length())));
        }
        return text.toString();
    }

    private String template() {
        StringBuilder text = new StringBuilder();
        boolean isPadded = random.nextInt(20) == 0;
        if (random.nextInt(9) > 0) {
            text.append("{let a=").append(pick(NUMBERS)).append("}{let b=").append(random.nextInt(99))
                    .append("}{let no=5}{let x='").append(pick(WORDS)).append("'}");
        }
        parts(text, random.nextInt(8) == 0 ? 6 : 3, random.nextInt(20) == 0 ? 60 : 4);
        while (isPadded && text.length() < 470 + random.nextInt(60)) {
            text.append(random.nextInt(3) == 0 ? "{1}" : "pad ");
        }
        return text.toString();
    }

    /** Loops that are likely to reach the 4000 bytes or the 3000 tags, if a table has many records. */
    private String deepLoops() {
        StringBuilder text = new StringBuilder();
        int depth = 2 + random.nextInt(5);
        String table = TABLES[random.nextInt(2)];
        for (int i = 0; i < depth; i++) {
            text.append("{each ").append(table).append('}');
            part(text, 0, random.nextInt(9) == 0 ? 2 : 4);
        }
        String plain = "{''}{1}".repeat(random.nextInt(9)) + "xyz{{".repeat(random.nextInt(3));
        text.append(plain);
        for (int i = 0; i < depth; i++) {
            text.append("{end}").append(random.nextInt(3) == 0 ? "-" : "");
        }
        return text.toString();
    }

    private void parts(StringBuilder text, int depth, int most) {
        int count = 1 + random.nextInt(most);
        for (int i = 0; i < count && text.length() < 560; i++) {
            part(text, depth, random.nextInt(9));
        }
    }

    private void part(StringBuilder text, int depth, int kind) {
        if (kind <= 1) {
            text.append(kind == 0 ? "xy}" : "{{z");
        } else if (kind == 2) {
            text.append("{let ").append(pick(NAMES)).append('=').append(expr(2)).append('}');
        } else if (kind <= 4 || depth == 0) {
            text.append('{').append(expr(2)).append(pick(new String[] {"", "", "", ":2", ":4"}))
                    .append(pick(new String[] {"", "", "", ">9", "<20", "<3", ">16"})).append('}');
        } else if (kind <= 6) {
            text.append("{each ").append(pick(TABLES));
            if (random.nextInt(3) == 0) {
                text.append(' ').append(pick(NAMES)).append('=').append(expr(1));
            }
            text.append('}');
            parts(text, depth - 1, 3);
            text.append("{end}");
        } else {
            text.append("{if ").append(expr(1)).append('}');
            parts(text, depth - 1, 2);
            if (random.nextBoolean()) {
                text.append("{else}");
                parts(text, depth - 1, 2);
            }
            text.append("{end}");
        }
    }

    private String expr(int depth) {
        StringBuilder text = new StringBuilder(factor(depth));
        for (int i = random.nextInt(6); i > 3; i--) {
            text.append("+-*".charAt(random.nextInt(3))).append(factor(depth));
        }
        return text.toString();
    }

    private String factor(int depth) {
        int kind = random.nextInt(depth > 0 ? 10 : 6);
        if (kind <= 2) {
            return random.nextInt(3) > 0 ? "" + random.nextInt(300) : pick(NUMBERS);
        }
        if (kind <= 4 || kind == 5 && random.nextBoolean()) {
            return NAMES[random.nextInt(random.nextInt(6) == 0 ? NAMES.length : 6)];
        }
        if (kind == 5) {
            return "'" + pick(WORDS) + "'";
        }
        if (kind == 6) {
            return random.nextInt(60) == 0 ? "--------1" : "-" + factor(depth - 1);
        }
        if (kind == 7) {
            return "(" + expr(depth - 1) + ")";
        }
        String function = pick(FUNCTIONS);
        if (function.equals("sum") && random.nextInt(4) > 0) {
            return "sum(" + pick(TABLES) + "," + pick(NAMES) + ")";
        }
        if (function.equals("count") && random.nextInt(4) > 0) {
            return "count(" + pick(TABLES) + ")";
        }
        if (function.equals("len") && random.nextInt(4) > 0) {
            return "len('" + pick(WORDS) + "')";
        }
        boolean isOfTwo = random.nextInt(30) == 0 || "pct div min max eq lt".contains(function);
        return function + "(" + expr(depth - 1) + (isOfTwo ? "," + expr(depth - 1) : "") + ")";
    }

    /** Most templates stay as they are; in some a byte or two is changed, left out or put in. */
    private String damaged(String template) {
        StringBuilder text = new StringBuilder(template);
        for (int i = random.nextInt(12); i > 10 - random.nextInt(2) && text.length() > 0; i--) {
            int at = random.nextInt(text.length());
            char c = NOISE.charAt(random.nextInt(NOISE.length()));
            switch (random.nextInt(3)) {
                case 0:
                    text.setCharAt(at, c);
                    break;
                case 1:
                    text.deleteCharAt(at);
                    break;
                default:
                    text.insert(at, c);
            }
        }
        return text.toString();
    }
}
