import java.util.ArrayList;
import java.util.List;
import java.util.function.Function;

/**
 * What calls leave as it was: the text, if they don't take it, and all but the text, if they throw.
 * A desk that was refused a call is compared with a twin that was never asked.
 */
public final class StateTests {

    private interface Asked {
        Object of(MergeDesk desk);
    }

    /** A state to be refused in; the dump is a template that prints every cell. */
    private record State(String name, Check.Maker maker, String dump) {
    }

    private static final State FRESH = new State("a new desk", MergeDesk::new, "");
    private static final State WORKING = new State("a desk at work", StateTests::working,
            "{each item}{no};{name};{price}|{end}{each line}{no};{qty}|{end}");
    private static final State FAULTED = new State("a desk behind a fault", StateTests::faulted, WORKING.dump);
    private static final State NO_TEMPLATE = new State("a desk whose template was refused", StateTests::noTemplate,
            WORKING.dump);
    private static final State FULL = new State("a full desk", StateTests::full,
            "{each ta}{c},{end}{each tb}{c},{end}{each tc}{c},{end}{each td}{c},{end}");

    public static void main(String[] args) {
        callsThatTakeTheText();
        callsThatLeaveTheText();
        typing();
        typingTooMuch();
        tables();
        records();
        cells();
        drops();
        merging();
        outputs();
        variables();
        abouts();
        numbers();
        refusedTemplates();
        severalExceptions();
        Check.end();
    }

    private static MergeDesk working() {
        MergeDesk desk = Check.desk("item no name price|1;Pen;150|2;Ink;2999|3;;-5", "line no qty|2;3|1;10");
        Check.prints(desk, "{let a=1}{let b='w'}{each line}{let c=qty}{no} {end}{a}", "2 1 1");
        return desk;
    }

    private static MergeDesk faulted() {
        MergeDesk desk = Check.desk("item no name price|1;Pen;150|2;Ink;2999|3;;-5", "line no qty|2;3|1;10");
        Check.faults(desk, "{let a=1}{let b='w'}{a}{each line}{qty}{x}{end}", 1, 39, "13");
        return desk;
    }

    private static MergeDesk noTemplate() {
        MergeDesk desk = working();
        Check.due("refused", 3, Check.compile(desk, "a{"));
        return desk;
    }

    private static MergeDesk full() {
        MergeDesk desk = Check.desk(Check.counted("ta c", 16), Check.counted("tb c", 16), Check.counted("tc c", 16),
                Check.counted("td c", 16));
        Check.prints(desk, "{let a=sum(ta,c)}{a}", "120");
        return desk;
    }

    // ---- the text ----

    /** "a call that takes it empties it, whatever it answers or throws". */
    private static void callsThatTakeTheText() {
        takes(FRESH, "t a", "0", MergeDesk::table);
        takes(FRESH, "t", Check.ARGUMENT, MergeDesk::table);
        takes(WORKING, "item a", Check.ARGUMENT, MergeDesk::table);
        takes(FULL, "te a", Check.UNSUPPORTED, MergeDesk::table);
        takes(WORKING, "1;2", "2", desk -> desk.record(1));
        takes(WORKING, "1;2", Check.INDEX, desk -> desk.record(2));
        takes(WORKING, "1;2;3", Check.ARGUMENT, desk -> desk.record(1));
        takes(FULL, "1", Check.UNSUPPORTED, desk -> desk.record(0));
        takes(WORKING, "5", "void", desk -> cell(desk, 0, 0, 0));
        takes(WORKING, "5", Check.INDEX, desk -> cell(desk, 2, 0, 0));
        takes(WORKING, "5", Check.INDEX, desk -> cell(desk, 0, 3, 0));
        takes(WORKING, "5", Check.INDEX, desk -> cell(desk, 0, 0, 3));
        takes(WORKING, "a;b", Check.ARGUMENT, desk -> cell(desk, 0, 0, 0));
        takes(WORKING, "abc", "0", MergeDesk::compile);
        takes(WORKING, "{", "2", MergeDesk::compile);
        takes(WORKING, "y".repeat(600), "501", MergeDesk::compile);
        takes(WORKING, "a", "1", MergeDesk::variable);
        takes(WORKING, "b", Check.ELEMENT, MergeDesk::variable);
        takes(WORKING, "zz", Check.ELEMENT, MergeDesk::variable);
        takes(WORKING, "{}", Check.ELEMENT, MergeDesk::variable);
    }

    private static void takes(State state, String text, String answer, Asked asked) {
        MergeDesk desk = Check.type(state.maker.make(), text);
        Check.due(text + " on " + state.name, answer, Check.answer(() -> asked.of(desk)));
        Check.due(text + " is gone", "75 and 0", roomFor(desk));
        MergeDesk another = Check.type(state.maker.make(), text);
        Check.answer(() -> asked.of(another));
        Check.prints(another, "new", "new");
    }

    /** All other calls leave it, when they are refused, too. */
    private static void callsThatLeaveTheText() {
        leaves(FRESH, "false", desk -> desk.type(0x4141L, 0));
        leaves(FRESH, "false", desk -> desk.type(0x4141L, 9));
        leaves(WORKING, "void", desk -> drop(desk, 0, 0));
        leaves(WORKING, Check.INDEX, desk -> drop(desk, 0, 3));
        leaves(WORKING, Check.INDEX, desk -> drop(desk, 2, 0));
        leaves(WORKING, "5", MergeDesk::merge);
        leaves(FAULTED, "-10039", MergeDesk::merge);
        leaves(FRESH, Check.STATE, MergeDesk::merge);
        leaves(NO_TEMPLATE, Check.STATE, MergeDesk::merge);
        leaves(WORKING, "5", MergeDesk::size);
        leaves(WORKING, "50", desk -> desk.out(0));
        leaves(WORKING, Check.INDEX, desk -> desk.out(5));
        leaves(WORKING, Check.INDEX, desk -> desk.out(-1));
        leaves(WORKING, "2", desk -> desk.about(0));
        leaves(WORKING, Check.INDEX, desk -> desk.about(5));
        leaves(WORKING, Check.INDEX, desk -> desk.about(-1));
        leaves(WORKING, "150", desk -> desk.number(0, 0, 2));
        leaves(WORKING, Check.ELEMENT, desk -> desk.number(0, 0, 1));
        leaves(WORKING, Check.INDEX, desk -> desk.number(0, 0, 3));
    }

    private static void leaves(State state, String answer, Asked asked) {
        MergeDesk desk = Check.type(state.maker.make(), "the text");
        Check.due("on " + state.name, answer, Check.answer(() -> asked.of(desk)));
        Check.prints(desk, " stays", "the text stays");
    }

    // ---- calls that are refused ----

    /** "A call that throws changes nothing (but for the text)": type answers false instead. */
    private static void typing() {
        int[] counts = {0, 9, -1, 10, Integer.MAX_VALUE, Integer.MIN_VALUE, 8 + Integer.MIN_VALUE};
        for (int n : counts) {
            leavesAll(FRESH, "kept ", "type of " + n, "false", desk -> desk.type(0x6161616161616161L, n));
            leavesAll(WORKING, "kept ", "type of " + n, "false", desk -> desk.type(0x6161616161616161L, n));
            leavesAll(FULL, "", "type of " + n, "false", desk -> desk.type(0x6161616161616161L, n));
        }
    }

    /** Promise 2: "or there would be more than 600". */
    private static void typingTooMuch() {
        for (int n = 1; n <= 8; n++) {
            int count = n;
            leavesAll(WORKING, "y".repeat(601 - n), "type beyond 600", "false", desk -> desk.type(-1L, count));
            leavesAll(WORKING, "y".repeat(600), "type behind 600", "false", desk -> desk.type(-1L, count));
        }
    }

    /** Promise 3: none, a name that is a table's already, and a fifth. */
    private static void tables() {
        String[] none = {"", "t", "t a a", "t a b c d e f g", "T a", "end a", "item a", "line no qty", "abcdefghi a"};
        for (String text : none) {
            changesNothing(WORKING, text, "table " + text, Check.ARGUMENT, MergeDesk::table);
            changesNothing(FAULTED, text, "table " + text, Check.ARGUMENT, MergeDesk::table);
        }
        changesNothing(FRESH, "t", "table t", Check.ARGUMENT, MergeDesk::table);
        changesNothing(FULL, "te a", "a fifth", Check.UNSUPPORTED, MergeDesk::table);
        changesNothing(FULL, "te", "none, and full", Check.ARGUMENT, MergeDesk::table);
        changesNothing(FULL, "ta c", "a name again, and full", Check.ARGUMENT, MergeDesk::table);
    }

    /** Promise 4: no such table, none, and a 17th. */
    private static void records() {
        int[] nowhere = {2, 3, 4, -1, Integer.MAX_VALUE, Integer.MIN_VALUE};
        for (int table : nowhere) {
            changesNothing(WORKING, "7;8", "record of " + table, Check.INDEX, desk -> desk.record(table));
            changesNothing(WORKING, "a'b", "record of " + table, Check.INDEX, desk -> desk.record(table));
        }
        changesNothing(FRESH, "7", "record of 0", Check.INDEX, desk -> desk.record(0));
        String[] none = {"", "7", "7;8;9", "7;a'b", "7;abcdefghijklm", "7;1234567890123456", "7;8;9;10;11;12;13"};
        for (String text : none) {
            changesNothing(WORKING, text, "record " + text, Check.ARGUMENT, desk -> desk.record(1));
        }
        for (int i = 0; i < 4; i++) {
            int table = i;
            changesNothing(FULL, "77", "a 17th", Check.UNSUPPORTED, desk -> desk.record(table));
            changesNothing(FULL, "7;7", "none, and full", Check.ARGUMENT, desk -> desk.record(table));
        }
        changesNothing(FULL, "77", "record of 4", Check.INDEX, desk -> desk.record(4));
    }

    private static final int[][] NO_CELLS = {{2, 0, 0}, {-1, 0, 0}, {4, 0, 0}, {0, 3, 0}, {0, -1, 0}, {0, 16, 0},
        {1, 2, 0}, {0, 0, 3}, {0, 0, -1}, {0, 0, 6}, {1, 0, 2}, {Integer.MAX_VALUE, 0, 0}, {0, Integer.MAX_VALUE, 0},
        {0, 0, Integer.MAX_VALUE}, {Integer.MIN_VALUE, 0, 0}, {0, Integer.MIN_VALUE, 0}, {0, 0, Integer.MIN_VALUE}};

    /** Promise 5: no such table, record or column, and none. */
    private static void cells() {
        for (int[] at : NO_CELLS) {
            changesNothing(WORKING, "7", "no cell", Check.INDEX, desk -> cell(desk, at[0], at[1], at[2]));
            changesNothing(WORKING, ";", "no cell and none", Check.INDEX, desk -> cell(desk, at[0], at[1], at[2]));
        }
        changesNothing(FRESH, "7", "no cell", Check.INDEX, desk -> cell(desk, 0, 0, 0));
        changesNothing(FULL, "7", "no cell", Check.INDEX, desk -> cell(desk, 3, 16, 0));
        changesNothing(FULL, "7", "no cell", Check.INDEX, desk -> cell(desk, 4, 15, 0));
        changesNothing(FULL, "7", "no cell", Check.INDEX, desk -> cell(desk, 3, 15, 1));
        String[] none = {";", "7;", "a;b", "'", "}", "abcdefghijklm", "1234567890123456", "-1234567890123456",
            "\u001f", "\u007f"};
        for (String text : none) {
            changesNothing(WORKING, text, "cell " + text, Check.ARGUMENT, desk -> cell(desk, 0, 1, 1));
            changesNothing(WORKING, text, "cell " + text, Check.ARGUMENT, desk -> cell(desk, 1, 1, 1));
        }
    }

    /** Promise 6: no such table or record. */
    private static void drops() {
        int[][] nowhere = {{2, 0}, {-1, 0}, {0, 3}, {0, -1}, {1, 2}, {4, 0}, {0, Integer.MAX_VALUE},
            {0, Integer.MIN_VALUE}, {Integer.MAX_VALUE, 0}, {Integer.MIN_VALUE, 0}};
        for (int[] at : nowhere) {
            leavesAll(WORKING, "kept ", "drop", Check.INDEX, desk -> drop(desk, at[0], at[1]));
        }
        leavesAll(FRESH, "kept ", "drop", Check.INDEX, desk -> drop(desk, 0, 0));
        leavesAll(FULL, "kept ", "drop", Check.INDEX, desk -> drop(desk, 3, 16));
        leavesAll(FULL, "kept ", "drop", Check.INDEX, desk -> drop(desk, 4, 15));
    }

    /** Promise 8: "IllegalStateException when there is no template." */
    private static void merging() {
        leavesAll(FRESH, "kept ", "merge", Check.STATE, MergeDesk::merge);
        leavesAll(NO_TEMPLATE, "kept ", "merge", Check.STATE, MergeDesk::merge);
    }

    /** Promise 10: before the first byte and behind the last. */
    private static void outputs() {
        int[] nowhere = {-1, 5, 4000, Integer.MAX_VALUE, Integer.MIN_VALUE};
        for (int i : nowhere) {
            leavesAll(WORKING, "kept ", "out " + i, Check.INDEX, desk -> desk.out(i));
            leavesAll(NO_TEMPLATE, "kept ", "out " + i, Check.INDEX, desk -> desk.out(i));
        }
        leavesAll(FRESH, "kept ", "out 0", Check.INDEX, desk -> desk.out(0));
        leavesAll(FAULTED, "kept ", "out 2", Check.INDEX, desk -> desk.out(2));
    }

    /** Promise 11: not set, a word, and no name. */
    private static void variables() {
        String[] none = {"", "b", "d", "aa", "A", "a ", "abcdefghi", "each", "{a}", "no"};
        for (String name : none) {
            changesNothing(WORKING, name, "variable " + name, Check.ELEMENT, MergeDesk::variable);
            changesNothing(NO_TEMPLATE, name, "variable " + name, Check.ELEMENT, MergeDesk::variable);
        }
        changesNothing(FRESH, "a", "variable a", Check.ELEMENT, MergeDesk::variable);
        changesNothing(FAULTED, "x", "variable x", Check.ELEMENT, MergeDesk::variable);
    }

    /** Promise 12: "IndexOutOfBoundsException for another what." */
    private static void abouts() {
        int[] nothing = {-1, 5, 6, Integer.MAX_VALUE, Integer.MIN_VALUE};
        for (int what : nothing) {
            leavesAll(FRESH, "kept ", "about " + what, Check.INDEX, desk -> desk.about(what));
            leavesAll(WORKING, "kept ", "about " + what, Check.INDEX, desk -> desk.about(what));
        }
    }

    /** Promise 13: no such table, record or column, and a word. */
    private static void numbers() {
        for (int[] at : NO_CELLS) {
            leavesAll(WORKING, "kept ", "no cell", Check.INDEX, desk -> desk.number(at[0], at[1], at[2]));
        }
        leavesAll(FRESH, "kept ", "no cell", Check.INDEX, desk -> desk.number(0, 0, 0));
        leavesAll(FULL, "kept ", "no cell", Check.INDEX, desk -> desk.number(3, 16, 0));
        leavesAll(WORKING, "kept ", "a word", Check.ELEMENT, desk -> desk.number(0, 0, 1));
        leavesAll(WORKING, "kept ", "an empty word", Check.ELEMENT, desk -> desk.number(0, 2, 1));
    }

    /** "(there is no template then)": the template alone is gone, with its tags. */
    private static void refusedTemplates() {
        String[] refused = {"{", "abc{end}", "{if 1}{let a=9}", "{let a=9}{", "y".repeat(501)};
        for (String text : refused) {
            MergeDesk desk = working();
            Check.due("about it before", "2 5 7 8 3 ", abouts(desk));
            Check.due("compile " + text, true, Check.compile(desk, text) > 0);
            Check.due("about it then", "2 5 0 8 3 ", abouts(desk));
            Check.due("what came out", outputThen(working()), outputThen(desk));
            Check.due("its cells", cellsThen(working()), cellsThen(desk));
            Check.due("its variables", variablesThen(working()), variablesThen(desk));
            Check.due("merge " + text, Check.STATE, Check.merge(desk));
            Check.due("about it still", "2 5 0 8 3 ", abouts(desk));
            Check.prints(desk, WORKING.dump, "1;Pen;150|2;Ink;2999|3;;-5|2;3|1;10|");
        }
    }

    /** "where several exceptions that a call names fit, it is the one that it names first". */
    private static void severalExceptions() {
        first(FULL, "te", Check.ARGUMENT, MergeDesk::table);
        first(FULL, "", Check.ARGUMENT, MergeDesk::table);
        first(FULL, "te a a", Check.ARGUMENT, MergeDesk::table);
        first(FULL, "td c", Check.ARGUMENT, MergeDesk::table);
        first(FULL, "te c", Check.UNSUPPORTED, MergeDesk::table);
        first(FULL, "a'b", Check.INDEX, desk -> desk.record(4));
        first(FULL, "1;2", Check.INDEX, desk -> desk.record(-1));
        first(FRESH, "a'b", Check.INDEX, desk -> desk.record(0));
        first(FULL, "a'b", Check.ARGUMENT, desk -> desk.record(3));
        first(FULL, "1;2", Check.ARGUMENT, desk -> desk.record(3));
        first(FULL, "1", Check.UNSUPPORTED, desk -> desk.record(3));
        first(FULL, "a'b", Check.INDEX, desk -> cell(desk, 4, 0, 0));
        first(FULL, "a'b", Check.INDEX, desk -> cell(desk, 0, 16, 0));
        first(FULL, "a'b", Check.INDEX, desk -> cell(desk, 0, 0, 1));
        first(FULL, "a'b", Check.INDEX, desk -> cell(desk, 4, 16, 1));
        first(FULL, "a'b", Check.ARGUMENT, desk -> cell(desk, 3, 15, 0));
        first(WORKING, "", Check.INDEX, desk -> desk.number(0, 0, 3));
        first(WORKING, "", Check.ELEMENT, desk -> desk.number(0, 0, 1));
    }

    private static void first(State state, String text, String thrown, Asked asked) {
        MergeDesk desk = Check.type(state.maker.make(), text);
        Check.due(text + " on " + state.name, thrown, Check.answer(() -> asked.of(desk)));
    }

    // ---- the twin ----

    private static void changesNothing(State state, String text, String what, String answer, Asked asked) {
        compare(state, text, what, answer, asked, true);
    }

    private static void leavesAll(State state, String text, String what, String answer, Asked asked) {
        compare(state, text, what, answer, asked, false);
    }

    /** Each look is taken on a pair of its own, for some looks change what others would see. */
    private static void compare(State state, String text, String what, String answer, Asked asked, boolean takesText) {
        List<Function<MergeDesk, String>> looks = new ArrayList<>(List.of(StateTests::abouts, StateTests::outputThen,
                StateTests::cellsThen, StateTests::variablesThen, StateTests::mergedThen, StateTests::roomFor,
                StateTests::compiledThen, StateTests::addedThen));
        looks.add(desk -> dumped(desk, state.dump));
        for (int i = 0; i < looks.size(); i++) {
            MergeDesk desk = Check.type(state.maker.make(), text);
            Check.due(what + " on " + state.name, answer, Check.answer(() -> asked.of(desk)));
            MergeDesk twin = state.maker.make();
            if (!takesText) {
                Check.type(twin, text);
            }
            Check.due(what + " on " + state.name + ", look " + i, looks.get(i).apply(twin), looks.get(i).apply(desk));
        }
    }

    private static String abouts(MergeDesk desk) {
        StringBuilder seen = new StringBuilder();
        for (int what = 0; what <= 4; what++) {
            seen.append(desk.about(what)).append(' ');
        }
        return seen.toString();
    }

    private static String outputThen(MergeDesk desk) {
        return desk.size() + Check.out(desk);
    }

    private static String cellsThen(MergeDesk desk) {
        StringBuilder seen = new StringBuilder();
        for (int table = 0; table <= desk.about(0); table++) {
            for (int record = 0; !Check.number(desk, table, record, 0).equals(Check.INDEX); record++) {
                for (int column = 0; column < 3; column++) {
                    seen.append(Check.number(desk, table, record, column)).append(' ');
                }
            }
            seen.append('|');
        }
        return seen.toString();
    }

    private static String variablesThen(MergeDesk desk) {
        StringBuilder seen = new StringBuilder();
        String[] names = {"a", "a", "b", "c", "d", "no"};
        for (String name : names) {
            desk.type(name.charAt(0), 1);
            seen.append(Check.answer(desk::variable)).append(' ');
        }
        return seen.toString();
    }

    private static String mergedThen(MergeDesk desk) {
        return Check.merge(desk) + " " + outputThen(desk) + " " + abouts(desk) + variablesThen(desk);
    }

    /** How often eight bytes, and then how often one, can still be typed. */
    private static String roomFor(MergeDesk desk) {
        int eights = 0;
        while (eights < 80 && desk.type(0x2020202020202020L, 8)) {
            eights++;
        }
        int ones = 0;
        while (ones < 10 && desk.type(0x20, 1)) {
            ones++;
        }
        return eights + " and " + ones;
    }

    private static String compiledThen(MergeDesk desk) {
        return desk.compile() + " " + abouts(desk) + mergedThen(desk);
    }

    private static String addedThen(MergeDesk desk) {
        StringBuilder seen = new StringBuilder();
        String[] texts = {"1;2", "1;2", "new c", "newer c", "newest c"};
        for (int i = 0; i < texts.length; i++) {
            int at = i;
            desk.type(Check.packed(texts[i], 0, texts[i].length()), texts[i].length());
            seen.append(Check.answer(() -> at < 2 ? desk.record(at) : desk.table())).append(' ');
        }
        return seen + abouts(desk);
    }

    private static String dumped(MergeDesk desk, String dump) {
        for (int from = 0; from < dump.length(); from += 8) {
            int n = Math.min(8, dump.length() - from);
            desk.type(Check.packed(dump, from, n), n);
        }
        return compiledThen(desk);
    }

    private static String cell(MergeDesk desk, int table, int record, int column) {
        desk.cell(table, record, column);
        return "void";
    }

    private static String drop(MergeDesk desk, int table, int record) {
        desk.drop(table, record);
        return "void";
    }
}
