/** The promises 1 to 13, a method each; what compile and merge do in full is in tests of their own. */
public final class PromiseTests {

    public static void main(String[] args) {
        newObject();
        eachDeskAlone();
        typing();
        typingLowestFirst();
        typingUpTo600();
        tables();
        tableLimits();
        records();
        recordLimits();
        cells();
        cellsOfFullTables();
        drops();
        dropsOfFullTables();
        compiles();
        merges();
        outputs();
        sizes();
        variables();
        abouts();
        aboutEmptyAndFull();
        numbers();
        numbersOfFullTables();
        Check.end();
    }

    /** Promise 1: "No tables, no template, no output; the text is empty." */
    private static void newObject() {
        MergeDesk desk = new MergeDesk();
        for (int what = 0; what <= 4; what++) {
            Check.due("new about " + what, 0, desk.about(what));
        }
        Check.due("new size", 0, desk.size());
        Check.due("new out", Check.INDEX, Check.answer(() -> desk.out(0)));
        Check.due("new merge", Check.STATE, Check.answer(desk::merge));
        Check.due("new variable", Check.ELEMENT, Check.variable(desk, "a"));
        Check.due("new record", Check.INDEX, Check.record(desk, 0, "1"));
        Check.due("new cell", Check.INDEX, Check.cell(desk, 0, 0, 0, "1"));
        Check.due("new drop", Check.INDEX, Check.drop(desk, 0, 0));
        Check.due("new number", Check.INDEX, Check.number(desk, 0, 0, 0));
        Check.due("new empty text is no table", Check.ARGUMENT, Check.answer(desk::table));
        Check.due("new empty text is a template", 0, desk.compile());
        Check.due("it merges into nothing", 0, desk.merge());
    }

    /** Each object begins so, whatever another one has. */
    private static void eachDeskAlone() {
        MergeDesk one = Check.shop();
        Check.prints(one, "{let a=1}abc", "abc");
        Check.type(one, "text");
        MergeDesk other = new MergeDesk();
        for (int what = 0; what <= 4; what++) {
            Check.due("about " + what, 0, other.about(what));
        }
        Check.due("size", 0, other.size());
        Check.due("merge", Check.STATE, Check.merge(other));
        Check.due("the text is empty", 0, other.compile());
        Check.due("it merges into nothing", 0, other.merge());
        Check.due("variable", Check.ELEMENT, Check.variable(other, "a"));
        Check.due("its first table", 0, Check.table(other, "item x"));
        Check.due("the other's output stays", "abc", Check.out(one));
        Check.due("and its variable", Check.ELEMENT, Check.variable(one, "a"));
        Check.due("behind its text", 1, Check.variable(one, "a"));
    }

    /** Promise 2: "False, changing nothing, when n is not 1 .. 8, or there would be more than 600." */
    private static void typing() {
        MergeDesk desk = new MergeDesk();
        int[] wrongCounts = {0, 9, -1, Integer.MIN_VALUE, Integer.MAX_VALUE};
        for (int n : wrongCounts) {
            Check.due("type of " + n, false, desk.type(0x4141414141414141L, n));
        }
        Check.due("lowest first", true, desk.type(0x7a7a636261L, 3));
        Check.due("behind", true, desk.type(-1L, 1));
        Check.due("eight", true, desk.type(0xfe00010203040580L, 8));
        Check.due("compile", 0, desk.compile());
        Check.due("merge", 12, desk.merge());
        Check.due("out", "abc\u00ff\u0080\u0005\u0004\u0003\u0002\u0001\u0000\u00fe", Check.out(desk));

        Check.type(desk, "x".repeat(599));
        Check.due("599 and 2", false, desk.type(0x7878L, 2));
        Check.due("599 and 1", true, desk.type(0x78L, 1));
        Check.due("600 and 1", false, desk.type(0x78L, 1));
        Check.due("600 x are too long at 500", 501, desk.compile());
        Check.due("the text is empty again", true, desk.type(0x78L, 1));
        Check.due("it compiles", 0, desk.compile());
        Check.due("to one byte", 1, desk.merge());
    }

    /** Promise 3: "its number. IllegalArgumentException when it is none, or its name is a table's already". */
    private static void tables() {
        MergeDesk desk = new MergeDesk();
        String[] none = {"", "a", "a ", " a", " a b", "a b ", "a  b", "A b", "a B", "a b1", "a,b", "a b b", "a b c b",
            "abcdefghi b", "a abcdefghi", "each b", "end b", "if b", "else b", "let b", "a each", "a end", "a if",
            "a else", "a let", "a b c d e f g h", "a b\n", "a`b", "a {", "a b;c", "a\tb"};
        for (String text : none) {
            Check.due("table " + text, Check.ARGUMENT, Check.table(desk, text));
        }
        Check.due("none came", 0, desk.about(0));
        Check.due("a text that is none is gone", 0, Check.table(desk, "a a"));
        Check.due("the same name", Check.ARGUMENT, Check.table(desk, "a b"));
        Check.due("six columns, a word as a part", 1, Check.table(desk, "eachs ends iff elses lets abcdefgh z"));
        Check.due("seven columns", Check.ARGUMENT, Check.table(desk, "b a b c d e f g"));
        Check.due("eight letters", 2, Check.table(desk, "abcdefgh a"));
        Check.due("seven of them are another name", 3, Check.table(desk, "abcdefg a"));
    }

    /** Promise 3: "UnsupportedOperationException when there are 4." */
    private static void tableLimits() {
        MergeDesk desk = new MergeDesk();
        for (int i = 0; i < 4; i++) {
            Check.due("table " + i, i, Check.table(desk, "t" + (char) ('a' + i) + " c"));
        }
        Check.due("a fifth", Check.UNSUPPORTED, Check.table(desk, "te c"));
        Check.due("none, and full", Check.ARGUMENT, Check.table(desk, "te"));
        Check.due("a name again, and full", Check.ARGUMENT, Check.table(desk, "td c"));
        Check.due("the text is gone", Check.ARGUMENT, Check.answer(desk::table));
        Check.due("four stay", 4, desk.about(0));
    }

    /** Promise 4: "its number .. IllegalArgumentException when it is none". */
    private static void records() {
        MergeDesk desk = new MergeDesk();
        Check.table(desk, "t a b");
        Check.table(desk, "one c");
        String[] none = {"", "1", "1;2;3", "1;2;", "a'b;1", "a}b;1", "1;a\u001fb", "1;a\u007fb", "1;a\u0080",
            "1234567890abc;1", "1234567890123456;1", "-1234567890123456;1", "1;-12345678901a", "1;2;3;4;5;6;7",
            "+12345678901234;1", "123456789012 ;1"};
        for (String text : none) {
            Check.due("record " + text, Check.ARGUMENT, Check.record(desk, 0, text));
        }
        Check.due("none came", 0, desk.about(1));
        Check.due("two", 0, Check.record(desk, 0, "123456789012345;-123456789012345"));
        Check.due("two empty words", 1, Check.record(desk, 0, ";"));
        Check.due("twelve bytes", 2, Check.record(desk, 0, " !\"#$%&()*+,;-./:<=>?@[~{"));
        Check.due("signs", 3, Check.record(desk, 0, "-;--1"));
        Check.due("noughts first", 4, Check.record(desk, 0, "007;-000000000000009"));
        String[] noneOfOne = {"a'b", "1;2", ";", "a\u0000", "1;2;3;4;5;6;7", "abcdefghijklm"};
        for (String text : noneOfOne) {
            Check.due("record of one " + text, Check.ARGUMENT, Check.record(desk, 1, text));
        }
        Check.due("an empty text is an empty word", 0, Check.record(desk, 1, ""));
        Check.due("minus nought", 1, Check.record(desk, 1, "-0"));
        Check.due("15", "123456789012345", Check.number(desk, 0, 0, 0));
        Check.due("-15", "-123456789012345", Check.number(desk, 0, 0, 1));
        Check.due("- is a word", Check.ELEMENT, Check.number(desk, 0, 3, 0));
        Check.due("--1 is a word", Check.ELEMENT, Check.number(desk, 0, 3, 1));
        Check.due("007", "7", Check.number(desk, 0, 4, 0));
        Check.due("-0..09", "-9", Check.number(desk, 0, 4, 1));
        Check.due("-0", "0", Check.number(desk, 1, 1, 0));
        Check.prints(desk, "{each t a=' !\"#$%&()*+,'}{a}|{b}{end}", " !\"#$%&()*+,|-./:<=>?@[~{");
    }

    /** Promise 4: "IndexOutOfBoundsException when there is no such table; .. UnsupportedOperationException when it has 16." */
    private static void recordLimits() {
        MergeDesk desk = new MergeDesk();
        Check.table(desk, "t a");
        for (int i = 0; i < 16; i++) {
            Check.due("record " + i, i, Check.record(desk, 0, "" + i));
        }
        Check.due("a 17th", Check.UNSUPPORTED, Check.record(desk, 0, "1"));
        Check.due("none, and full", Check.ARGUMENT, Check.record(desk, 0, "1;2"));
        Check.due("no table, and none", Check.INDEX, Check.record(desk, 1, "a'b"));
        Check.due("below 0", Check.INDEX, Check.record(desk, -1, "1"));
        Check.due("the text is gone", Check.UNSUPPORTED, Check.record(desk, 0, ""));
        Check.due("16 stay", 16, desk.about(1));
        Check.due("dropped", "void", Check.drop(desk, 0, 15));
        Check.due("a 16th again", 15, Check.record(desk, 0, "99"));
        Check.due("it is the last", "99", Check.number(desk, 0, 15, 0));
    }

    /** Promise 5: "IndexOutOfBoundsException when there is no such table, record or column; IllegalArgumentException .." */
    private static void cells() {
        MergeDesk desk = Check.shop();
        Check.due("a number", "void", Check.cell(desk, 0, 1, 2, "-42"));
        Check.due("is there", "-42", Check.number(desk, 0, 1, 2));
        Check.due("the one before stays", "150", Check.number(desk, 0, 0, 2));
        Check.due("the one behind stays", "-5", Check.number(desk, 0, 2, 2));
        Check.due("an empty text", "void", Check.cell(desk, 0, 1, 2, ""));
        Check.due("is a word", Check.ELEMENT, Check.number(desk, 0, 1, 2));
        String[] none = {"a;b", "1;", ";", "a'", "}", "1234567890123456", "abcdefghijklm", "\u0080"};
        for (String text : none) {
            Check.due("cell " + text, Check.ARGUMENT, Check.cell(desk, 0, 0, 0, text));
        }
        Check.due("nothing changed", "1", Check.number(desk, 0, 0, 0));
        int[][] nowhere = {{3, 0, 0}, {-1, 0, 0}, {0, 3, 0}, {0, -1, 0}, {0, 0, 3}, {0, 0, -1}, {2, 0, 1}};
        for (int[] at : nowhere) {
            Check.due("no cell", Check.INDEX, Check.cell(desk, at[0], at[1], at[2], "1"));
            Check.due("no cell and no text", Check.INDEX, Check.cell(desk, at[0], at[1], at[2], ";"));
            Check.due("no number", Check.INDEX, Check.number(desk, at[0], at[1], at[2]));
        }
        Check.due("the text is gone", "void", Check.cell(desk, 0, 0, 0, "5"));
        Check.due("it is the new one alone", "5", Check.number(desk, 0, 0, 0));
        Check.due("twelve bytes", "void", Check.cell(desk, 0, 0, 1, "abcdefghijkl"));
        Check.prints(desk, "{each item no=5}{name}{end}", "abcdefghijkl");
    }

    /** Promise 6: "A record is gone; those behind it have one less as their numbers." */
    private static void drops() {
        MergeDesk desk = Check.shop();
        Check.due("no table", Check.INDEX, Check.drop(desk, 3, 0));
        Check.due("table below 0", Check.INDEX, Check.drop(desk, -1, 0));
        Check.due("no record", Check.INDEX, Check.drop(desk, 1, 4));
        Check.due("record below 0", Check.INDEX, Check.drop(desk, 1, -1));
        Check.due("all there", 8, desk.about(1));
        Check.due("the second", "void", Check.drop(desk, 1, 1));
        Check.due("one less", 7, desk.about(1));
        Check.prints(desk, "{each line}{no}:{qty} {end}{count(line)}", "2:3 2:1 9:9 3");
        Check.due("the last", "void", Check.drop(desk, 1, 2));
        Check.due("no third any more", Check.INDEX, Check.number(desk, 1, 2, 0));
        Check.due("the first", "void", Check.drop(desk, 1, 0));
        Check.prints(desk, "{each line}{no}:{qty} {end}{sum(line,qty)}", "2:1 1");
        Check.due("the last one", "void", Check.drop(desk, 1, 0));
        Check.due("none there", Check.INDEX, Check.drop(desk, 1, 0));
        Check.prints(desk, "{each line}x{end}{count(line)}", "0");
        Check.due("a new first", 0, Check.record(desk, 1, "7;8"));
        Check.type(desk, "kept a");
        Check.due("drop leaves the text", "void", Check.drop(desk, 1, 0));
        Check.due("which is a table", 3, desk.table());
    }

    /** Promise 7: "0; or 1 more than the place of what is wrong (there is no template then)." */
    private static void compiles() {
        MergeDesk desk = new MergeDesk();
        Check.due("good", 0, Check.compile(desk, "a{b}{if c}{else}{end}"));
        Check.due("end and else are tags", 4, desk.about(2));
        Check.due("bad", 3, Check.compile(desk, "ab{end}"));
        Check.due("no template then", Check.STATE, Check.answer(desk::merge));
        Check.due("and no tags", 0, desk.about(2));
        Check.due("the text is gone", 0, Check.compile(desk, "x"));
        Check.due("merged", 1, desk.merge());
        Check.due("bad again", 2, Check.compile(desk, "{"));
        Check.due("what came out stays", "x", Check.out(desk));
        Check.due("a good one", 0, Check.compile(desk, "{1}"));
        Check.due("an empty one instead", 0, Check.compile(desk, ""));
        Check.due("merges into nothing", 0, desk.merge());
        Check.due("a block is open", 7, Check.compile(desk, "{if 1}"));
        Check.due("not the next time", 0, Check.compile(desk, "x"));
        Check.due("so there is none to end", 1, Check.compile(desk, "{end}"));
        nothingBehindTheEnd(desk);
    }

    /** What an earlier, longer text had behind the END is not read. */
    private static void nothingBehindTheEnd(MergeDesk desk) {
        String[] whole = {"{1}", "{{", "{1>12}", "{abcd}", "{'a'}", "{1+2}", "{each a}{end}", "{f(1)}"};
        for (String template : whole) {
            Check.due(template, 0, Check.compile(desk, template));
            for (int size = template.length() - 1; size > 0; size--) {
                String cut = template.substring(0, size);
                Check.due(cut + " behind " + template, size + 1,
                        Check.compile(desk, cut));
                Check.compile(desk, template);
            }
        }
    }

    /** Promise 8: "how many bytes came out; or, made negative, 10000 times the fault and the place". */
    private static void merges() {
        MergeDesk desk = Check.shop();
        Check.prints(desk, "{each line}{each item no=no}{qty>3} {name<5}{qty*price:2>8}\n{end}{end}",
                "  3 Ink     89.97\n 10 Pen     15.00\n  1 Ink     29.99\n");
        Check.due("the same again", 54, desk.merge());
        Check.due("a record more", 4, Check.record(desk, 1, "1;1"));
        Check.due("is merged without compiling", 72, desk.merge());
        Check.type(desk, "item");
        desk.merge();
        Check.due("merge leaves the text", Check.ARGUMENT, Check.answer(desk::table));
        Check.faults(desk, "ab{no}", 1, 2, "ab");
    }

    /** Promises 9 and 10: what came out of the latest merge(). */
    private static void outputs() {
        MergeDesk desk = new MergeDesk();
        Check.prints(desk, "xyz", "xyz");
        Check.due("size", 3, desk.size());
        Check.due("first", 'x' + 0, desk.out(0));
        Check.due("last", 'z' + 0, desk.out(2));
        int[] nowhere = {3, 4, -1, Integer.MIN_VALUE, Integer.MAX_VALUE};
        for (int i : nowhere) {
            Check.due("out " + i, Check.INDEX, Check.answer(() -> desk.out(i)));
        }
        Check.prints(desk, "q", "q");
        Check.due("the latest merge alone", Check.INDEX, Check.answer(() -> desk.out(1)));
        Check.faults(desk, "ab{c}d", 1, 2, "ab");
        Check.due("size behind a fault", 2, desk.size());
    }

    /** Promise 11: "NoSuchElementException when it was not set, or is a word." */
    private static void variables() {
        MergeDesk desk = new MergeDesk();
        Check.prints(desk, "{let a=5}{let b='w'}{let a=a*2}{let abcdefgh=-1}", "");
        Check.due("a", "10", Check.variable(desk, "a"));
        Check.due("abcdefgh", "-1", Check.variable(desk, "abcdefgh"));
        String[] none = {"b", "c", "", "A", "a ", "abcdefghi", "each", "aa", "\u0000", "5"};
        for (String name : none) {
            Check.due("variable " + name, Check.ELEMENT, Check.variable(desk, name));
        }
        Check.type(desk, "b");
        Check.due("the text is gone", Check.ELEMENT, Check.answer(desk::variable));
        Check.due("so this is a alone", "10", Check.variable(desk, "a"));
        Check.compile(desk, "{let c=1}{let d=x}{let e=2}");
        Check.due("still the latest merge's", "10", Check.variable(desk, "a"));
        Check.due("a fault", -10009, desk.merge());
        Check.due("set before it", "1", Check.variable(desk, "c"));
        Check.due("at it", Check.ELEMENT, Check.variable(desk, "d"));
        Check.due("behind it", Check.ELEMENT, Check.variable(desk, "e"));
        Check.due("of the merge before", Check.ELEMENT, Check.variable(desk, "a"));
        Check.prints(desk, "{let a=1}{let a='w'}", "");
        Check.due("a word now", Check.ELEMENT, Check.variable(desk, "a"));
    }

    /** Promise 12: "IndexOutOfBoundsException for another what." */
    private static void abouts() {
        MergeDesk desk = Check.shop();
        Check.due("tables", 3, desk.about(0));
        Check.due("records", 8, desk.about(1));
        Check.due("tags", 0, desk.about(2));
        Check.due("done", 0, desk.about(3));
        Check.due("set", 0, desk.about(4));
        Check.prints(desk, "{{{let a=1}{each line}{let b=2}{if 0}{c}{else}{a}{end}{end}{let a=3}", "{1111");
        Check.due("tags", 10, desk.about(2));
        Check.due("done", 15, desk.about(3));
        Check.due("set", 2, desk.about(4));
        Check.faults(desk, "{let a=1}{1}{x}{2}", 1, 12, "1");
        Check.due("done with the one at fault", 3, desk.about(3));
        Check.due("set until then", 1, desk.about(4));
        int[] none = {5, 6, -1, Integer.MIN_VALUE, Integer.MAX_VALUE};
        for (int what : none) {
            Check.due("about " + what, Check.INDEX, Check.answer(() -> desk.about(what)));
        }
        Check.compile(desk, "{");
        Check.due("tags of none", 0, desk.about(2));
        Check.due("done stays", 3, desk.about(3));
        Check.due("set stays", 1, desk.about(4));
    }

    /** Promise 13: "its value; NoSuchElementException when it is a word; IndexOutOfBoundsException ..". */
    private static void numbers() {
        MergeDesk desk = Check.shop();
        Check.due("a number", "2999", Check.number(desk, 0, 1, 2));
        Check.due("a word", Check.ELEMENT, Check.number(desk, 0, 1, 1));
        Check.due("an empty word", Check.ELEMENT, Check.number(desk, 0, 2, 1));
        Check.due("no column", Check.INDEX, Check.number(desk, 1, 0, 2));
        Check.due("no record", Check.INDEX, Check.number(desk, 2, 1, 0));
        Check.due("no table", Check.INDEX, Check.number(desk, 3, 0, 0));
        Check.type(desk, "kept a");
        Check.number(desk, 0, 0, 0);
        Check.due("number leaves the text", 3, desk.table());
    }

    /** Promise 2: "The n lowest bytes of w come behind the text, the lowest first." */
    private static void typingLowestFirst() {
        String all = "\u0001\u00ff\u0080\u0000\u007f\u0020ab";
        long w = Check.packed(all, 0, 8);
        for (int n = -2; n <= 10; n++) {
            MergeDesk desk = Check.type(new MergeDesk(), "<");
            boolean isTyped = n >= 1 && n <= 8;
            Check.due("type of " + n, isTyped, desk.type(w, n));
            Check.prints(desk, ">", "<" + (isTyped ? all.substring(0, n) : "") + ">");
        }
        MergeDesk desk = new MergeDesk();
        desk.type(Long.MIN_VALUE, 8);
        desk.type(Long.MAX_VALUE, 8);
        desk.type(-1L, 8);
        Check.prints(desk, "", "\0".repeat(7) + "\u0080" + "\u00ff".repeat(7) + "\u007f" + "\u00ff".repeat(8));
    }

    /** Promise 2: "or there would be more than 600": for every n the last that is taken and the first that is not. */
    private static void typingUpTo600() {
        for (int n = 1; n <= 8; n++) {
            MergeDesk full = Check.type(new MergeDesk(), "x".repeat(600 - n));
            Check.due("up to 600 by " + n, true, full.type(0x7878787878787878L, n));
            Check.due("a byte more", false, full.type(0x78L, 1));
            MergeDesk almost = Check.type(new MergeDesk(), "x".repeat(601 - n));
            Check.due("up to 601 by " + n, false, almost.type(0x7878787878787878L, n));
            if (n > 1) {
                Check.due("up to 600 by " + (n - 1), true, almost.type(0x7878787878787878L, n - 1));
            }
            Check.due("a byte more", false, almost.type(0x78L, 1));
            Check.due("it is 600 then", 501, almost.compile());
            Check.due("and empty again", true, almost.type(0x78L, 1));
        }
        Check.prints(() -> {
            MergeDesk desk = Check.type(new MergeDesk(), "x".repeat(499));
            Check.due("nine would fit", false, desk.type(0x78L, 9));
            return desk;
        }, "y", "x".repeat(499) + "y");
    }

    private static MergeDesk fullTables() {
        StringBuilder records = new StringBuilder();
        for (int i = 0; i < 16; i++) {
            records.append("|").append(i).append(";w;").append(-i).append(";;").append(i * i).append(";").append(100 + i);
        }
        return Check.desk("ta a b c d e f", "tb a", "tc a", "td a b c d e f" + records);
    }

    /** Promise 5 at the last table, record and column that there can be, and just beyond. */
    private static void cellsOfFullTables() {
        MergeDesk desk = fullTables();
        Check.due("the last of all", "void", Check.cell(desk, 3, 15, 5, "-7"));
        Check.due("the first of it", "void", Check.cell(desk, 3, 0, 0, "x"));
        Check.due("beyond the tables", Check.INDEX, Check.cell(desk, 4, 15, 5, "1"));
        Check.due("beyond the records", Check.INDEX, Check.cell(desk, 3, 16, 5, "1"));
        Check.due("beyond the columns", Check.INDEX, Check.cell(desk, 3, 15, 6, "1"));
        Check.due("a record before", Check.INDEX, Check.cell(desk, 3, -1, 5, "1"));
        Check.due("a column before", Check.INDEX, Check.cell(desk, 3, 15, -1, "1"));
        Check.due("a table before", Check.INDEX, Check.cell(desk, -1, 15, 5, "1"));
        Check.due("a table without records", Check.INDEX, Check.cell(desk, 0, 0, 0, "1"));
        Check.due("it is there", -7, Check.number(desk, 3, 15, 5));
        Check.due("the one before it", 225, Check.number(desk, 3, 15, 4));
        Check.due("the one above it", 114, Check.number(desk, 3, 14, 5));
        Check.due("the first is a word", Check.ELEMENT, Check.number(desk, 3, 0, 0));
        Check.due("the one behind it", 0, Check.number(desk, 3, 0, 2));
        Check.due("the one below it", 1, Check.number(desk, 3, 1, 0));
        Check.prints(desk, "{each td}{a}{f},{end}", "x100,1101,2102,3103,4104,5105,6106,7107,8108,9109,10110,11111,"
                + "12112,13113,14114,15-7,");
    }

    /** Promise 6 for every record of a full table: just that one is gone. */
    private static void dropsOfFullTables() {
        for (int gone = 0; gone < 16; gone++) {
            MergeDesk desk = fullTables();
            Check.due("drop " + gone, "void", Check.drop(desk, 3, gone));
            Check.due("records", 15, desk.about(1));
            for (int record = 0; record < 15; record++) {
                int was = record < gone ? record : record + 1;
                Check.due("first column", was, Check.number(desk, 3, record, 0));
                Check.due("a word", Check.ELEMENT, Check.number(desk, 3, record, 1));
                Check.due("last column", 100 + was, Check.number(desk, 3, record, 5));
            }
            Check.due("no 16th", Check.INDEX, Check.number(desk, 3, 15, 0));
            Check.due("none to drop there", Check.INDEX, Check.drop(desk, 3, 15));
            Check.due("the last that there is", "void", Check.drop(desk, 3, 14));
        }
        MergeDesk desk = fullTables();
        for (int left = 15; left >= 0; left--) {
            Check.due("drop the first", "void", Check.drop(desk, 3, 0));
            Check.due("left", left, desk.about(1));
        }
        Check.due("none is left", Check.INDEX, Check.drop(desk, 3, 0));
        Check.due("a new first one", 0, Check.record(desk, 3, "1;2;3;4;5;6"));
    }

    /** Promise 9: "How many bytes came out of the latest merge()". */
    private static void sizes() {
        MergeDesk desk = new MergeDesk();
        Check.due("none yet", 0, desk.size());
        Check.prints(desk, "abc", "abc");
        Check.due("three", 3, desk.size());
        Check.compile(desk, "abcdef");
        Check.due("compiling alone brings none", 3, desk.size());
        Check.due("merged", 6, desk.merge());
        Check.due("six", 6, desk.size());
        Check.compile(desk, "{");
        Check.due("merge is refused", Check.STATE, Check.merge(desk));
        Check.due("still six", 6, desk.size());
        Check.faults(desk, "ab{x}", 1, 2, "ab");
        Check.due("two", 2, desk.size());
        Check.faults(desk, "{x}", 1, 0, "");
        Check.due("none", 0, desk.size());
        Check.due("no byte", Check.INDEX, Check.answer(() -> desk.out(0)));
        Check.prints(desk, "", "");
    }

    /** Promise 12: each of the five when there is none, one, and the most that there can be. */
    private static void aboutEmptyAndFull() {
        MergeDesk desk = new MergeDesk();
        for (int i = 0; i <= 4; i++) {
            Check.due("tables", i, desk.about(0));
            Check.due("records", 16 * i, desk.about(1));
            Check.table(desk, "t" + (char) ('a' + i) + " a");
            for (int k = 0; i < 4 && k < 16; k++) {
                Check.due("record", k, Check.record(desk, i, ""));
            }
        }
        int[] tags = {0, 1, 2, 119, 120};
        for (int count : tags) {
            MergeDesk another = new MergeDesk();
            Check.due("compile", 0, Check.compile(another, "{1}".repeat(count)));
            Check.due("tags", count, another.about(2));
            Check.due("none is done yet", 0, another.about(3));
            Check.due("merge", count, another.merge());
            Check.due("done", count, another.about(3));
            Check.due("set", 0, another.about(4));
            Check.due("too many", 361, Check.compile(another, "{1}".repeat(121)));
            Check.due("none are left", 0, another.about(2));
            Check.due("done still", count, another.about(3));
        }
        MergeDesk setting = new MergeDesk();
        Check.prints(setting, "{let a=1}", "");
        Check.due("one is set", 1, setting.about(4));
        Check.prints(setting, "{let a=1}{let a=2}{let b='w'}", "");
        Check.due("two are set", 2, setting.about(4));
    }

    /** Promise 13 at the last table, record and column that there can be, and just beyond. */
    private static void numbersOfFullTables() {
        MergeDesk desk = fullTables();
        Check.due("the last of all", 115, Check.number(desk, 3, 15, 5));
        Check.due("the first of it", 0, Check.number(desk, 3, 0, 0));
        int[][] nowhere = {{4, 15, 5}, {3, 16, 5}, {3, 15, 6}, {-1, 15, 5}, {3, -1, 5}, {3, 15, -1}, {0, 0, 0}, {2, 0, 0},
            {Integer.MIN_VALUE, 0, 0}, {3, Integer.MIN_VALUE, 0}, {3, 0, Integer.MIN_VALUE}, {Integer.MAX_VALUE, 0, 0},
            {3, Integer.MAX_VALUE, 0}, {3, 0, Integer.MAX_VALUE}};
        for (int[] at : nowhere) {
            Check.due("nowhere", Check.INDEX, Check.number(desk, at[0], at[1], at[2]));
        }
        Check.due("a word", Check.ELEMENT, Check.number(desk, 3, 15, 1));
        Check.due("an empty word", Check.ELEMENT, Check.number(desk, 3, 15, 3));
        Check.due("the most", "void", Check.cell(desk, 3, 15, 5, "999999999999999"));
        Check.due("is there", "999999999999999", Check.number(desk, 3, 15, 5));
        Check.due("the least", "void", Check.cell(desk, 3, 15, 5, "-999999999999999"));
        Check.due("is there", "-999999999999999", Check.number(desk, 3, 15, 5));
    }
}
