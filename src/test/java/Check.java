/** Counts what is not as it is due, and types, compiles and merges texts for the tests. */
final class Check {
    static final String INDEX = "IndexOutOfBoundsException";
    static final String ARGUMENT = "IllegalArgumentException";
    static final String UNSUPPORTED = "UnsupportedOperationException";
    static final String STATE = "IllegalStateException";
    static final String ELEMENT = "NoSuchElementException";

    interface Call {
        Object answer();
    }

    /** Makes the same desk each time; a case of its own has a desk of its own. */
    interface Maker {
        MergeDesk make();
    }

    /** So many bytes are asked of one desk, for an object is used for at most 512 calls. */
    private static final int SLICE = 256;

    private static int wrong = 0;
    private static int looked = 0;

    private Check() {
    }

    static void due(String what, Object want, Object got) {
        looked++;
        if (!String.valueOf(want).equals(String.valueOf(got))) {
            wrong++;
            System.out.println(clip(what) + ": answered " + clip(got) + ", due is " + clip(want));
        }
    }

    private static String clip(Object given) {
        String text = String.valueOf(given);
        return text.length() <= 160 ? text : text.substring(0, 150) + ".. of " + text.length();
    }

    /** The answer as a text, or the plain name of the exception that was thrown. */
    static String answer(Call call) {
        try {
            return String.valueOf(call.answer());
        } catch (RuntimeException e) {
            return e.getClass().getSimpleName();
        }
    }

    static void end() {
        System.out.println(wrong == 0 ? looked + " answers are as due" : wrong + " answers are not as due");
        System.exit(wrong == 0 ? 0 : 1);
    }

    /** Types the text in pieces of eight bytes; characters are bytes 0 to 255. */
    static MergeDesk type(MergeDesk desk, String text) {
        for (int from = 0; from < text.length(); from += 8) {
            int n = Math.min(8, text.length() - from);
            due("type", true, desk.type(packed(text, from, n), n));
        }
        return desk;
    }

    /** The n characters from there on as type takes them, the first as the lowest byte. */
    static long packed(String text, int from, int n) {
        long w = 0;
        for (int i = n - 1; i >= 0; i--) {
            w = w << 8 | text.charAt(from + i);
        }
        return w;
    }

    static String table(MergeDesk desk, String text) {
        type(desk, text);
        return answer(desk::table);
    }

    static String record(MergeDesk desk, int table, String text) {
        type(desk, text);
        return answer(() -> desk.record(table));
    }

    static String cell(MergeDesk desk, int table, int record, int column, String text) {
        type(desk, text);
        return answer(() -> {
            desk.cell(table, record, column);
            return "void";
        });
    }

    static String drop(MergeDesk desk, int table, int record) {
        return answer(() -> {
            desk.drop(table, record);
            return "void";
        });
    }

    static String number(MergeDesk desk, int table, int record, int column) {
        return answer(() -> desk.number(table, record, column));
    }

    static int compile(MergeDesk desk, String template) {
        return type(desk, template).compile();
    }

    static String variable(MergeDesk desk, String name) {
        type(desk, name);
        return answer(desk::variable);
    }

    static String out(MergeDesk desk) {
        return out(desk, 0, desk.size());
    }

    private static String out(MergeDesk desk, int from, int to) {
        StringBuilder out = new StringBuilder();
        for (int i = from; i < to; i++) {
            out.append((char) desk.out(i));
        }
        return out.toString();
    }

    static String merge(MergeDesk desk) {
        return answer(desk::merge);
    }

    /** The template must compile and merge without a fault, into just this text. */
    static void prints(MergeDesk desk, String template, String want) {
        due("compile " + template, 0, compile(desk, template));
        due("merge " + template, want.length(), answer(desk::merge));
        due("out of " + template, want, out(desk));
    }

    /** The template must compile and end with this fault at this place, behind just this text. */
    static void faults(MergeDesk desk, String template, int fault, int place, String before) {
        due("compile " + template, 0, compile(desk, template));
        due("merge " + template, -(10000 * fault + place), answer(desk::merge));
        due("out of " + template, before, out(desk));
    }

    /** As with a desk, but each on a new one. */
    static void prints(Maker maker, String template, String want) {
        merges(maker, template, want.length(), want);
    }

    static void faults(Maker maker, String template, int fault, int place, String before) {
        merges(maker, template, -(10000 * fault + place), before);
    }

    private static void merges(Maker maker, String template, int answer, String want) {
        for (int from = 0; from == 0 || from < want.length(); from += SLICE) {
            MergeDesk desk = maker.make();
            due("compile " + template, 0, compile(desk, template));
            due("merge " + template, answer, merge(desk));
            due("size of " + template, want.length(), desk.size());
            due("no byte more of " + template, INDEX, answer(() -> desk.out(want.length())));
            if (desk.size() == want.length()) {
                int to = Math.min(from + SLICE, want.length());
                due("out of " + template, want.substring(from, to), out(desk, from, to));
            }
        }
    }

    /** The template must be refused at this place. */
    static void refuses(String template, int place) {
        MergeDesk desk = new MergeDesk();
        due("compile " + template, place + 1, compile(desk, template));
        due("tags of " + template, 0, desk.about(2));
        due("merge of " + template, STATE, answer(desk::merge));
    }

    static void accepts(String template, int tags) {
        MergeDesk desk = new MergeDesk();
        due("compile " + template, 0, compile(desk, template));
        due("tags of " + template, tags, desk.about(2));
    }

    /** A desk with tables, each told with its records behind it: "t a b|1;2|3;4". */
    static MergeDesk desk(String... told) {
        MergeDesk desk = new MergeDesk();
        for (int i = 0; i < told.length; i++) {
            String[] texts = told[i].split("\\|", -1);
            due("table " + texts[0], i, table(desk, texts[0]));
            for (int k = 1; k < texts.length; k++) {
                due("record " + texts[k], k - 1, record(desk, i, texts[k]));
            }
        }
        return desk;
    }

    /** A table told with the records 0, 1, .. of one number each. */
    static String counted(String table, int records) {
        StringBuilder told = new StringBuilder(table);
        for (int i = 0; i < records; i++) {
            told.append('|').append(i);
        }
        return told.toString();
    }

    /** Items, lines and a tax, as an invoice has them. */
    static MergeDesk shop() {
        return desk("item no name price|1;Pen;150|2;Ink;2999|3;;-5", "line no qty|2;3|1;10|2;1|9;9", "tax rate|19");
    }
}
