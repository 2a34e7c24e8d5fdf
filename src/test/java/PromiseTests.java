/** The promises 1 to 13, a method each; what compile and merge do in full is in tests of their own. */
public final class PromiseTests {

    public static void main(String[] args) {
        newObject();
        typing();
        tables();
        tableLimits();
        records();
        recordLimits();
        cells();
        drops();
        compiles();
        merges();
        outputs();
        variables();
        abouts();
        numbers();
        Check.end();
    }

    private static void newObject() {
        MergeDesk desk = new MergeDesk();
        for (int what = 0; what <= 4; what++) {
            Check.due("new about " + what, 0, desk.about(what));
        }
        Check.due("new size", 0, desk.size());
        Check.due("new out", Check.INDEX, Check.answer(() -> desk.out(0)));
        Check.due("new merge", Check.STATE, Check.answer(desk::merge));
        Check.due("new variable", Check.ELEMENT, Check.variable(desk, "a"));
        Check.due("new record", Check.INDEX, Check.record(desk, 0, "1"));
        Check.due("new empty text is no table", Check.ARGUMENT, Check.answer(desk::table));
        Check.due("new empty text is a template", 0, desk.compile());
        Check.due("it merges into nothing", 0, desk.merge());
    }

    private static void typing() {
        MergeDesk desk = new MergeDesk();
        int[] wrongCounts = {0, 9, -1, Integer.MIN_VALUE, Integer.MAX_VALUE};
        for (int n : wrongCounts) {
            Check.due("type of " + n, false, desk.type(0x4141414141414141L, n));
        }
        Check.due("lowest first", true, desk.type(0x7a7a636261L, 3));
        Check.due("behind", true, desk.type(-1L, 1));
        Check.due("eight", true, desk.type(0xfe00010203040580L, 8));
        Check.due("compile", 0, desk.compile());
        Check.due("merge", 12, desk.merge());
        Check.due("out", "abc\u00ff\u0080\u0005\u0004\u0003\u0002\u0001\u0000\u00fe", Check.out(desk));

        Check.type(desk, "x".repeat(599));
        Check.due("599 and 2", false, desk.type(0x7878L, 2));
        Check.due("599 and 1", true, desk.type(0x78L, 1));
        Check.due("600 and 1", false, desk.type(0x78L, 1));
        Check.due("600 x are too long at 500", 501, desk.compile());
        Check.due("the text is empty again", true, desk.type(0x78L, 1));
        Check.due("it compiles", 0, desk.compile());
        Check.due("to one byte", 1, desk.merge());
    }

    private static void tables() {
        MergeDesk desk = new MergeDesk();
        String[] none = {"", "a", "a ", " a", " a b", "a b ", "a  b", "A b", "a B", "a b1", "a,b", "a b b", "a b c b",
            "abcdefghi b", "a abcdefghi", "each b", "end b", "if b", "else b", "let b", "a each", "a end", "a if",
            "a else", "a let", "a b c d e f g h", "a b\n", "a`b", "a {", "a b;c", "a\tb"};
        for (String text : none) {
            Check.due("table " + text, Check.ARGUMENT, Check.table(desk, text));
        }
        Check.due("none came", 0, desk.about(0));
        Check.due("a text that is none is gone", 0, Check.table(desk, "a a"));
        Check.due("the same name", Check.ARGUMENT, Check.table(desk, "a b"));
        Check.due("six columns, a word as a part", 1, Check.table(desk, "eachs ends iff elses lets abcdefgh z"));
        Check.due("seven columns", Check.ARGUMENT, Check.table(desk, "b a b c d e f g"));
        Check.due("eight letters", 2, Check.table(desk, "abcdefgh a"));
        Check.due("seven of them are another name", 3, Check.table(desk, "abcdefg a"));
    }

    private static void tableLimits() {
        MergeDesk desk = new MergeDesk();
        for (int i = 0; i < 4; i++) {
            Check.due("table " + i, i, Check.table(desk, "t" + (char) ('a' + i) + " c"));
        }
        Check.due("a fifth", Check.UNSUPPORTED, Check.table(desk, "te c"));
        Check.due("none, and full", Check.ARGUMENT, Check.table(desk, "te"));
        Check.due("a name again, and full", Check.ARGUMENT, Check.table(desk, "td c"));
        Check.due("the text is gone", Check.ARGUMENT, Check.answer(desk::table));
        Check.due("four stay", 4, desk.about(0));
    }

    private static void records() {
        MergeDesk desk = new MergeDesk();
        Check.table(desk, "t a b");
        Check.table(desk, "one c");
        String[] none = {"", "1", "1;2;3", "1;2;", "a'b;1", "a}b;1", "1;a\u001fb", "1;a\u007fb", "1;a\u0080",
            "1234567890abc;1", "1234567890123456;1", "-1234567890123456;1", "1;-12345678901a", "1;2;3;4;5;6;7",
            "+12345678901234;1", "123456789012 ;1"};
        for (String text : none) {
            Check.due("record " + text, Check.ARGUMENT, Check.record(desk, 0, text));
        }
        Check.due("none came", 0, desk.about(1));
        Check.due("two", 0, Check.record(desk, 0, "123456789012345;-123456789012345"));
        Check.due("two empty words", 1, Check.record(desk, 0, ";"));
        Check.due("twelve bytes", 2, Check.record(desk, 0, " !\"#$%&()*+,;-./:<=>?@[~{"));
        Check.due("signs", 3, Check.record(desk, 0, "-;--1"));
        Check.due("noughts first", 4, Check.record(desk, 0, "007;-000000000000009"));
        String[] noneOfOne = {"a'b", "1;2", ";", "a\u0000", "1;2;3;4;5;6;7", "abcdefghijklm"};
        for (String text : noneOfOne) {
            Check.due("record of one " + text, Check.ARGUMENT, Check.record(desk, 1, text));
        }
        Check.due("an empty text is an empty word", 0, Check.record(desk, 1, ""));
        Check.due("minus nought", 1, Check.record(desk, 1, "-0"));
        Check.due("15", "123456789012345", Check.number(desk, 0, 0, 0));
        Check.due("-15", "-123456789012345", Check.number(desk, 0, 0, 1));
        Check.due("- is a word", Check.ELEMENT, Check.number(desk, 0, 3, 0));
        Check.due("--1 is a word", Check.ELEMENT, Check.number(desk, 0, 3, 1));
        Check.due("007", "7", Check.number(desk, 0, 4, 0));
        Check.due("-0..09", "-9", Check.number(desk, 0, 4, 1));
        Check.due("-0", "0", Check.number(desk, 1, 1, 0));
        Check.prints(desk, "{each t a=' !\"#$%&()*+,'}{a}|{b}{end}", " !\"#$%&()*+,|-./:<=>?@[~{");
    }

    private static void recordLimits() {
        MergeDesk desk = new MergeDesk();
        Check.table(desk, "t a");
        for (int i = 0; i < 16; i++) {
            Check.due("record " + i, i, Check.record(desk, 0, "" + i));
        }
        Check.due("a 17th", Check.UNSUPPORTED, Check.record(desk, 0, "1"));
        Check.due("none, and full", Check.ARGUMENT, Check.record(desk, 0, "1;2"));
        Check.due("no table, and none", Check.INDEX, Check.record(desk, 1, "a'b"));
        Check.due("below 0", Check.INDEX, Check.record(desk, -1, "1"));
        Check.due("the text is gone", Check.UNSUPPORTED, Check.record(desk, 0, ""));
        Check.due("16 stay", 16, desk.about(1));
        Check.due("dropped", "void", Check.drop(desk, 0, 15));
        Check.due("a 16th again", 15, Check.record(desk, 0, "99"));
        Check.due("it is the last", "99", Check.number(desk, 0, 15, 0));
    }

    private static void cells() {
        MergeDesk desk = Check.shop();
        Check.due("a number", "void", Check.cell(desk, 0, 1, 2, "-42"));
        Check.due("is there", "-42", Check.number(desk, 0, 1, 2));
        Check.due("the one before stays", "150", Check.number(desk, 0, 0, 2));
        Check.due("the one behind stays", "-5", Check.number(desk, 0, 2, 2));
        Check.due("an empty text", "void", Check.cell(desk, 0, 1, 2, ""));
        Check.due("is a word", Check.ELEMENT, Check.number(desk, 0, 1, 2));
        String[] none = {"a;b", "1;", ";", "a'", "}", "1234567890123456", "abcdefghijklm", "\u0080"};
        for (String text : none) {
            Check.due("cell " + text, Check.ARGUMENT, Check.cell(desk, 0, 0, 0, text));
        }
        Check.due("nothing changed", "1", Check.number(desk, 0, 0, 0));
        int[][] nowhere = {{3, 0, 0}, {-1, 0, 0}, {0, 3, 0}, {0, -1, 0}, {0, 0, 3}, {0, 0, -1}, {2, 0, 1}};
        for (int[] at : nowhere) {
            Check.due("no cell", Check.INDEX, Check.cell(desk, at[0], at[1], at[2], "1"));
            Check.due("no cell and no text", Check.INDEX, Check.cell(desk, at[0], at[1], at[2], ";"));
            Check.due("no number", Check.INDEX, Check.number(desk, at[0], at[1], at[2]));
        }
        Check.due("the text is gone", "void", Check.cell(desk, 0, 0, 0, "5"));
        Check.due("it is the new one alone", "5", Check.number(desk, 0, 0, 0));
        Check.due("twelve bytes", "void", Check.cell(desk, 0, 0, 1, "abcdefghijkl"));
        Check.prints(desk, "{each item no=5}{name}{end}", "abcdefghijkl");
    }

    private static void drops() {
        MergeDesk desk = Check.shop();
        Check.due("no table", Check.INDEX, Check.drop(desk, 3, 0));
        Check.due("table below 0", Check.INDEX, Check.drop(desk, -1, 0));
        Check.due("no record", Check.INDEX, Check.drop(desk, 1, 4));
        Check.due("record below 0", Check.INDEX, Check.drop(desk, 1, -1));
        Check.due("all there", 8, desk.about(1));
        Check.due("the second", "void", Check.drop(desk, 1, 1));
        Check.due("one less", 7, desk.about(1));
        Check.prints(desk, "{each line}{no}:{qty} {end}{count(line)}", "2:3 2:1 9:9 3");
        Check.due("the last", "void", Check.drop(desk, 1, 2));
        Check.due("no third any more", Check.INDEX, Check.number(desk, 1, 2, 0));
        Check.due("the first", "void", Check.drop(desk, 1, 0));
        Check.prints(desk, "{each line}{no}:{qty} {end}{sum(line,qty)}", "2:1 1");
        Check.due("the last one", "void", Check.drop(desk, 1, 0));
        Check.due("none there", Check.INDEX, Check.drop(desk, 1, 0));
        Check.prints(desk, "{each line}x{end}{count(line)}", "0");
        Check.due("a new first", 0, Check.record(desk, 1, "7;8"));
        Check.type(desk, "kept a");
        Check.due("drop leaves the text", "void", Check.drop(desk, 1, 0));
        Check.due("which is a table", 3, desk.table());
    }

    private static void compiles() {
        MergeDesk desk = new MergeDesk();
        Check.due("good", 0, Check.compile(desk, "a{b}{if c}{else}{end}"));
        Check.due("end and else are tags", 4, desk.about(2));
        Check.due("bad", 3, Check.compile(desk, "ab{end}"));
        Check.due("no template then", Check.STATE, Check.answer(desk::merge));
        Check.due("and no tags", 0, desk.about(2));
        Check.due("the text is gone", 0, Check.compile(desk, "x"));
        Check.due("merged", 1, desk.merge());
        Check.due("bad again", 2, Check.compile(desk, "{"));
        Check.due("what came out stays", "x", Check.out(desk));
        Check.due("a good one", 0, Check.compile(desk, "{1}"));
        Check.due("an empty one instead", 0, Check.compile(desk, ""));
        Check.due("merges into nothing", 0, desk.merge());
        Check.due("a block is open", 7, Check.compile(desk, "{if 1}"));
        Check.due("not the next time", 0, Check.compile(desk, "x"));
        Check.due("so there is none to end", 1, Check.compile(desk, "{end}"));
        nothingBehindTheEnd(desk);
    }

    /** What an earlier, longer text had behind the END is not read. */
    private static void nothingBehindTheEnd(MergeDesk desk) {
        String[] whole = {"{1}", "{{", "{1>12}", "{abcd}", "{'a'}", "{1+2}", "{each a}{end}", "{f(1)}"};
        for (String template : whole) {
            Check.due(template, 0, Check.compile(desk, template));
            for (int size = template.length() - 1; size > 0; size--) {
                String cut = template.substring(0, size);
                Check.due(cut + " behind " + template, size + 1,
                        Check.compile(desk, cut));
                Check.compile(desk, template);
            }
        }
    }

    private static void merges() {
        MergeDesk desk = Check.shop();
        Check.prints(desk, "{each line}{each item no=no}{qty>3} {name<5}{qty*price:2>8}\n{end}{end}",
                "  3 Ink     89.97\n 10 Pen     15.00\n  1 Ink     29.99\n");
        Check.due("the same again", 54, desk.merge());
        Check.due("a record more", 4, Check.record(desk, 1, "1;1"));
        Check.due("is merged without compiling", 72, desk.merge());
        Check.type(desk, "item");
        desk.merge();
        Check.due("merge leaves the text", Check.ARGUMENT, Check.answer(desk::table));
        Check.faults(desk, "ab{no}", 1, 2, "ab");
    }

    private static void outputs() {
        MergeDesk desk = new MergeDesk();
        Check.prints(desk, "xyz", "xyz");
        Check.due("size", 3, desk.size());
        Check.due("first", 'x' + 0, desk.out(0));
        Check.due("last", 'z' + 0, desk.out(2));
        int[] nowhere = {3, 4, -1, Integer.MIN_VALUE, Integer.MAX_VALUE};
        for (int i : nowhere) {
            Check.due("out " + i, Check.INDEX, Check.answer(() -> desk.out(i)));
        }
        Check.prints(desk, "q", "q");
        Check.due("the latest merge alone", Check.INDEX, Check.answer(() -> desk.out(1)));
        Check.faults(desk, "ab{c}d", 1, 2, "ab");
        Check.due("size behind a fault", 2, desk.size());
    }

    private static void variables() {
        MergeDesk desk = new MergeDesk();
        Check.prints(desk, "{let a=5}{let b='w'}{let a=a*2}{let abcdefgh=-1}", "");
        Check.due("a", "10", Check.variable(desk, "a"));
        Check.due("abcdefgh", "-1", Check.variable(desk, "abcdefgh"));
        String[] none = {"b", "c", "", "A", "a ", "abcdefghi", "each", "aa", "\u0000", "5"};
        for (String name : none) {
            Check.due("variable " + name, Check.ELEMENT, Check.variable(desk, name));
        }
        Check.type(desk, "b");
        Check.due("the text is gone", Check.ELEMENT, Check.answer(desk::variable));
        Check.due("so this is a alone", "10", Check.variable(desk, "a"));
        Check.compile(desk, "{let c=1}{let d=x}{let e=2}");
        Check.due("still the latest merge's", "10", Check.variable(desk, "a"));
        Check.due("a fault", -10009, desk.merge());
        Check.due("set before it", "1", Check.variable(desk, "c"));
        Check.due("at it", Check.ELEMENT, Check.variable(desk, "d"));
        Check.due("behind it", Check.ELEMENT, Check.variable(desk, "e"));
        Check.due("of the merge before", Check.ELEMENT, Check.variable(desk, "a"));
        Check.prints(desk, "{let a=1}{let a='w'}", "");
        Check.due("a word now", Check.ELEMENT, Check.variable(desk, "a"));
    }

    private static void abouts() {
        MergeDesk desk = Check.shop();
        Check.due("tables", 3, desk.about(0));
        Check.due("records", 8, desk.about(1));
        Check.due("tags", 0, desk.about(2));
        Check.due("done", 0, desk.about(3));
        Check.due("set", 0, desk.about(4));
        Check.prints(desk, "{{{let a=1}{each line}{let b=2}{if 0}{c}{else}{a}{end}{end}{let a=3}", "{1111");
        Check.due("tags", 10, desk.about(2));
        Check.due("done", 15, desk.about(3));
        Check.due("set", 2, desk.about(4));
        Check.faults(desk, "{let a=1}{1}{x}{2}", 1, 12, "1");
        Check.due("done with the one at fault", 3, desk.about(3));
        Check.due("set until then", 1, desk.about(4));
        int[] none = {5, 6, -1, Integer.MIN_VALUE, Integer.MAX_VALUE};
        for (int what : none) {
            Check.due("about " + what, Check.INDEX, Check.answer(() -> desk.about(what)));
        }
        Check.compile(desk, "{");
        Check.due("tags of none", 0, desk.about(2));
        Check.due("done stays", 3, desk.about(3));
        Check.due("set stays", 1, desk.about(4));
    }

    private static void numbers() {
        MergeDesk desk = Check.shop();
        Check.due("a number", "2999", Check.number(desk, 0, 1, 2));
        Check.due("a word", Check.ELEMENT, Check.number(desk, 0, 1, 1));
        Check.due("an empty word", Check.ELEMENT, Check.number(desk, 0, 2, 1));
        Check.due("no column", Check.INDEX, Check.number(desk, 1, 0, 2));
        Check.due("no record", Check.INDEX, Check.number(desk, 2, 1, 0));
        Check.due("no table", Check.INDEX, Check.number(desk, 3, 0, 0));
        Check.type(desk, "kept a");
        Check.number(desk, 0, 0, 0);
        Check.due("number leaves the text", 3, desk.table());
    }
}
