/** "Terms" of the document: names, values, tables, records and templates, at each of their limits. */
public final class TermsTests {
    private static final String[] NAMES = {"a", "z", "abcdefgh", "zzzzzzzz", "eac", "eachs", "en", "ends", "i", "iff",
        "els", "elses", "le", "lets"};
    private static final String[] NO_NAMES = {"abcdefghi", "zzzzzzzzz", "abcdefghijklmnopqrstuvwxyz", "each", "end",
        "if", "else", "let"};
    private static final String DIGITS = "0123456789";
    private static final String MOST = "1000000000000000";

    public static void main(String[] args) {
        namesOfTables();
        namesOfColumns();
        namesOfVariables();
        namesInTemplates();
        bytesOfNames();
        rangeOfNumbers();
        bytesOfWords();
        lengthsOfWords();
        numbersOfTables();
        namesOfTheirOwn();
        countsOfColumns();
        differentColumns();
        textsOfTables();
        numbersOfRecords();
        countsOfCells();
        textsOfRecords();
        digitsOfCells();
        sizesOfTemplates();
        bytesOfTemplates();
        braces();
        Check.end();
    }

    private static String byteOf(int b) {
        return String.valueOf((char) b);
    }

    private static boolean isLetter(int b) {
        return b >= 97 && b <= 122;
    }

    private static boolean isWordByte(int b) {
        return b >= 32 && b <= 126 && b != 59 && b != 39 && b != 125;
    }

    /** "A NAME is 1 to 8 letters a .. z, and none of the words each, end, if, else, let": a table's. */
    private static void namesOfTables() {
        for (String name : NAMES) {
            Check.due("table " + name, 0, Check.table(new MergeDesk(), name + " c"));
        }
        for (String name : NO_NAMES) {
            Check.due("table " + name, Check.ARGUMENT, Check.table(new MergeDesk(), name + " c"));
        }
        Check.due("a table without a name", Check.ARGUMENT, Check.table(new MergeDesk(), " c"));
    }

    /** The same of a column's, the first of one and the last of six. */
    private static void namesOfColumns() {
        String six = "t x xx xxx xxxx xxxxx ";
        for (String name : NAMES) {
            Check.due("column " + name, 0, Check.table(new MergeDesk(), "t " + name));
            Check.due("sixth column " + name, 0, Check.table(new MergeDesk(), six + name));
            Check.prints(() -> Check.desk("t " + name + "|5"), "{each t}{" + name + "}{end}", "5");
        }
        for (String name : NO_NAMES) {
            Check.due("column " + name, Check.ARGUMENT, Check.table(new MergeDesk(), "t " + name));
            Check.due("sixth column " + name, Check.ARGUMENT, Check.table(new MergeDesk(), six + name));
        }
        Check.due("a column without a name", Check.ARGUMENT, Check.table(new MergeDesk(), "t "));
        Check.due("a sixth column without a name", Check.ARGUMENT, Check.table(new MergeDesk(), six));
    }

    /** The same of a variable's; eight letters and nine, seven and eight are different names. */
    private static void namesOfVariables() {
        for (String name : NAMES) {
            MergeDesk desk = new MergeDesk();
            Check.prints(desk, "{let " + name + "=7}", "");
            Check.due("variable " + name, "7", Check.variable(desk, name));
        }
        MergeDesk desk = new MergeDesk();
        Check.prints(desk, "{let abcdefgh=7}{let a=8}", "");
        for (String name : NO_NAMES) {
            Check.due("variable " + name, Check.ELEMENT, Check.variable(desk, name));
        }
        String[] none = {"", "abcdefg", "bcdefgh", "abcdefgi", "b", "aa", "a ", " a", "A", "a\u0000", "\u0000a", "{a}"};
        for (String name : none) {
            Check.due("variable " + name, Check.ELEMENT, Check.variable(desk, name));
        }
        Check.due("they are there", "7", Check.variable(desk, "abcdefgh"));
        Check.due("and this one", "8", Check.variable(desk, "a"));
    }

    /** The same wherever a template has a name; the empty case is that it is not there at all. */
    private static void namesInTemplates() {
        String[][] sites = {{"{let ", "=1}"}, {"{each ", "}{end}"}, {"{each ", " c=1}{end}"}, {"{each t ", "=1}{end}"},
            {"{1+", "}"}, {"{1*", "}"}, {"{-", "}"}, {"{(", ")}"}, {"{f(", ")}"}, {"{f(1,", ")}"}, {"{if ", "}{end}"},
            {"{let a=", "}"}, {"{each t c=", "}{end}"}};
        for (String[] site : sites) {
            for (String name : NAMES) {
                Check.due(site[0] + name, 0, Check.compile(new MergeDesk(), site[0] + name + site[1]));
            }
            for (String name : NO_NAMES) {
                Check.refuses(site[0] + name + site[1], site[0].length());
                Check.refuses(site[0] + name, site[0].length());
            }
            Check.refuses(site[0] + site[1], site[0].length());
            Check.refuses(site[0], site[0].length());
        }
        for (String name : NAMES) {
            Check.accepts("{" + name + "}", 1);
            Check.accepts("{" + name + "(1)}", 1);
            Check.accepts("{1+" + name + "(1)}", 1);
        }
        for (String name : NO_NAMES) {
            Check.refuses("{1+" + name + "(1)}", 3);
        }
        Check.refuses("{abcdefghi}", 1);
        Check.refuses("{abcdefghi(1)}", 1);
    }

    /** "letters a .. z": of all bytes just these. */
    private static void bytesOfNames() {
        MergeDesk set = new MergeDesk();
        Check.prints(set, "{let a=1}{let z=26}", "");
        for (int b = 0; b < 256; b++) {
            String due = isLetter(b) ? "0" : Check.ARGUMENT;
            Check.due("a table named byte " + b, due, Check.table(new MergeDesk(), byteOf(b) + " c"));
            Check.due("a table with byte " + b, due, Check.table(new MergeDesk(), "t" + byteOf(b) + " c"));
            Check.due("a column named byte " + b, due, Check.table(new MergeDesk(), "t " + byteOf(b)));
            Check.due("a last column with byte " + b, due, Check.table(new MergeDesk(), "t c c" + byteOf(b)));
            boolean isSet = b == 'a' || b == 'z';
            Check.due("a variable named byte " + b, isSet ? b - 96 : Check.ELEMENT, Check.variable(set, byteOf(b)));
            if (b % 128 == 127) {
                set = new MergeDesk();
                Check.prints(set, "{let a=1}{let z=26}", "");
            }
        }
    }

    /** "a NUMBER, a long from -10^15 to 10^15": what a variable can have, and what is beyond it. */
    private static void rangeOfNumbers() {
        MergeDesk desk = new MergeDesk();
        Check.prints(desk, "{let most=999999999999999+1}{let least=-999999999999999-1}{most} {least}", MOST + " -" + MOST);
        Check.due("the most", MOST, Check.variable(desk, "most"));
        Check.due("the least", "-" + MOST, Check.variable(desk, "least"));
        Check.faults(MergeDesk::new, "{let most=999999999999999+2}", 3, 0, "");
        Check.faults(MergeDesk::new, "{let least=-999999999999999-2}", 3, 0, "");
        Check.faults(MergeDesk::new, "{let most=999999999999999+1}{let more=most+1}", 3, 28, "");
        Check.faults(MergeDesk::new, "{let least=-999999999999999-1}{let less=least-1}", 3, 30, "");
    }

    /** "bytes 32 .. 126 without 59 (;), 39 and 125": in a cell, in a record, and in quotes. */
    private static void bytesOfWords() {
        for (int b = 0; b < 256; b++) {
            MergeDesk desk = Check.desk("t a b|1;2");
            boolean isNumber = DIGITS.indexOf(b) >= 0;
            boolean isCell = isWordByte(b);
            Check.due("cell of byte " + b, isCell ? "void" : Check.ARGUMENT, Check.cell(desk, 0, 0, 0, byteOf(b)));
            String then = isNumber ? byteOf(b) : isCell ? Check.ELEMENT : "1";
            Check.due("it is then", then, Check.number(desk, 0, 0, 0));
            Check.due("record with byte " + b, isCell ? "1" : Check.ARGUMENT, Check.record(desk, 0, "x;y" + byteOf(b)));
            Check.due("first cell with byte " + b, isCell ? "2" : Check.ARGUMENT,
                    Check.record(desk, 0, "x" + byteOf(b) + "y;z"));
            String quoted = "{'" + byteOf(b) + "'}";
            if (isCell) {
                Check.prints(desk, "{each t b=2}{a}{end}", byteOf(b));
                Check.prints(desk, quoted, byteOf(b));
            } else {
                Check.refuses(quoted, b == 39 ? 3 : 1);
            }
        }
    }

    /** "a WORD, at most 12 bytes" and "(which may be empty)". */
    private static void lengthsOfWords() {
        for (int length = 0; length <= 14; length++) {
            String word = "abcdefghijklmn".substring(0, length);
            boolean isWord = length <= 12;
            MergeDesk desk = Check.desk("t a b|1;2");
            Check.due("cell " + word, isWord ? "void" : Check.ARGUMENT, Check.cell(desk, 0, 0, 1, word));
            Check.due("record " + word, isWord ? "1" : Check.ARGUMENT, Check.record(desk, 0, word + ";"));
            Check.due("last " + word, isWord ? "2" : Check.ARGUMENT, Check.record(desk, 0, ";" + word));
            if (isWord) {
                Check.prints(desk, "{each t}[{a}|{b}]{end}", "[1|" + word + "][" + word + "|][|" + word + "]");
                Check.prints(MergeDesk::new, "[{'" + word + "'}]", "[" + word + "]");
            } else {
                Check.prints(desk, "{each t}[{a}|{b}]{end}", "[1|2]");
                Check.refuses("[{'" + word + "'}]", 2);
            }
        }
    }

    /** "TABLES have numbers 0, 1, .. (4 at most)". */
    private static void numbersOfTables() {
        MergeDesk desk = new MergeDesk();
        for (int i = 0; i < 4; i++) {
            Check.due("so many tables", i, desk.about(0));
            Check.due("record of the next", Check.INDEX, Check.record(desk, i, "1"));
            Check.due("table " + i, i, Check.table(desk, "t" + byteOf('a' + i) + " c"));
            Check.due("record of it", 0, Check.record(desk, i, "" + i));
        }
        Check.due("a fifth", Check.UNSUPPORTED, Check.table(desk, "te c"));
        Check.due("there are four", 4, desk.about(0));
        Check.due("no fifth", Check.INDEX, Check.record(desk, 4, "1"));
        Check.prints(desk, "{each ta}{c}{end}{each tb}{c}{end}{each tc}{c}{end}{each td}{c}{end}", "0123");
        Check.faults(desk, "{each te}{end}", 1, 0, "");
    }

    /** "each a name of its own": no other table has it, but a column may. */
    private static void namesOfTheirOwn() {
        MergeDesk desk = new MergeDesk();
        Check.due("none yet", Check.ARGUMENT, Check.table(desk, "t"));
        Check.due("the name is free still", 0, Check.table(desk, "t t a"));
        Check.due("with other columns", Check.ARGUMENT, Check.table(desk, "t b"));
        Check.due("with the same columns", Check.ARGUMENT, Check.table(desk, "t t a"));
        Check.due("a column's name", 1, Check.table(desk, "a t"));
        Check.due("the second one's name", Check.ARGUMENT, Check.table(desk, "a b"));
        Check.due("a letter more", 2, Check.table(desk, "tt a"));
        Check.due("another", 3, Check.table(desk, "u t"));
        Check.due("the last one's name", Check.ARGUMENT, Check.table(desk, "u a"));
        Check.due("four", 4, desk.about(0));
    }

    /** "1 to 6 COLUMNS". */
    private static void countsOfColumns() {
        StringBuilder text = new StringBuilder("t");
        StringBuilder cells = new StringBuilder();
        for (int columns = 0; columns <= 8; columns++) {
            MergeDesk desk = new MergeDesk();
            boolean isTable = columns >= 1 && columns <= 6;
            Check.due(columns + " columns", isTable ? "0" : Check.ARGUMENT, Check.table(desk, text.toString()));
            Check.due("tables then", isTable ? 1 : 0, desk.about(0));
            if (isTable) {
                Check.due("a record", 0, Check.record(desk, 0, cells.toString()));
                Check.due("the last column", columns, Check.number(desk, 0, 0, columns - 1));
                Check.due("none behind it", Check.INDEX, Check.number(desk, 0, 0, columns));
            }
            text.append(' ').append((char) ('a' + columns));
            cells.append(columns > 0 ? ";" : "").append(columns + 1);
        }
    }

    /** "with different names": no two of them may be the same, wherever they stand. */
    private static void differentColumns() {
        for (int one = 0; one < 6; one++) {
            for (int other = 0; other < 6; other++) {
                String[] names = {"a", "b", "c", "d", "e", "f"};
                names[other] = names[one];
                String due = one == other ? "0" : Check.ARGUMENT;
                Check.due("columns " + one + " and " + other, due,
                        Check.table(new MergeDesk(), "t " + String.join(" ", names)));
            }
        }
        Check.due("the table's own name", 0, Check.table(new MergeDesk(), "t a b t"));
        Check.due("the last of eight letters", 0, Check.table(new MergeDesk(), "t abcdefgh abcdefgi"));
        Check.due("the first of eight letters", 0, Check.table(new MergeDesk(), "t abcdefgh bbcdefgh"));
        Check.due("a letter less", 0, Check.table(new MergeDesk(), "t abcdefgh abcdefg bcdefgh"));
        Check.due("eight letters twice", Check.ARGUMENT, Check.table(new MergeDesk(), "t abcdefgh a abcdefgh"));
    }

    /** "A table is told as a text: its name and those of its columns, with one space (32) between." */
    private static void textsOfTables() {
        String[] none = {"", " ", "  ", "t", "t ", " t", " t a", "t a ", "t  a", "t a  b", "t a b ", "ta"};
        for (String text : none) {
            Check.due("table " + text, Check.ARGUMENT, Check.table(new MergeDesk(), text));
        }
        for (int b = 0; b < 256; b++) {
            String due = b == 32 ? "0" : Check.ARGUMENT;
            Check.due("byte between " + b, due, Check.table(new MergeDesk(), "t" + byteOf(b) + "a"));
            due = b == 32 || isLetter(b) ? "0" : Check.ARGUMENT;
            Check.due("byte between columns " + b, due, Check.table(new MergeDesk(), "t a" + byteOf(b) + "b"));
            due = isLetter(b) ? "0" : Check.ARGUMENT;
            Check.due("byte behind " + b, due, Check.table(new MergeDesk(), "t a" + byteOf(b)));
            Check.due("byte before " + b, due, Check.table(new MergeDesk(), byteOf(b) + "t a"));
        }
    }

    /** "RECORDS 0, 1, .. (16 at most)": of each table, however many the others have. */
    private static void numbersOfRecords() {
        MergeDesk desk = Check.desk("ta a", "tb a", "tc a", "td a");
        for (int i = 0; i < 16; i++) {
            for (int table = 0; table < 4; table++) {
                Check.due("record " + i + " of " + table, i, Check.record(desk, table, "" + i));
            }
        }
        for (int table = 0; table < 4; table++) {
            Check.due("a 17th", Check.UNSUPPORTED, Check.record(desk, table, "1"));
            Check.due("the 16th", 15, Check.number(desk, table, 15, 0));
            Check.due("no 17th", Check.INDEX, Check.number(desk, table, 16, 0));
        }
        Check.due("in all", 64, desk.about(1));
        Check.due("one is dropped", "void", Check.drop(desk, 1, 7));
        Check.due("there is room for one", 15, Check.record(desk, 1, "99"));
        Check.due("not for two", Check.UNSUPPORTED, Check.record(desk, 1, "100"));
        Check.due("not in another table", Check.UNSUPPORTED, Check.record(desk, 2, "100"));
        Check.due("it is the last", 99, Check.number(desk, 1, 15, 0));
        Check.due("in all again", 64, desk.about(1));
    }

    /** "cells with one ; between, one for each column". */
    private static void countsOfCells() {
        for (int columns = 1; columns <= 6; columns++) {
            String table = "t a b c d e f".substring(0, 1 + 2 * columns);
            for (int cells = 1; cells <= 8; cells++) {
                String due = cells == columns ? "0" : Check.ARGUMENT;
                String empty = ";".repeat(cells - 1);
                Check.due(cells + " empty cells for " + columns, due, Check.record(Check.desk(table), 0, empty));
                String full = "abcdefghijkl;".repeat(cells - 1) + "123456789012345";
                Check.due(cells + " full cells for " + columns, due, Check.record(Check.desk(table), 0, full));
            }
        }
        Check.due("an empty text is one empty cell", 0, Check.record(Check.desk("t a"), 0, ""));
        Check.due("a ; more", Check.ARGUMENT, Check.record(Check.desk("t a b"), 0, "1;2;"));
        Check.due("a ; first", Check.ARGUMENT, Check.record(Check.desk("t a b"), 0, ";1;2"));
        Check.due("two ; between", Check.ARGUMENT, Check.record(Check.desk("t a b"), 0, "1;;2"));
        Check.due("which are three cells", 0, Check.record(Check.desk("t a b c"), 0, "1;;2"));
    }

    /** "A record is told as a text": of all bytes between two cells just ; will do. */
    private static void textsOfRecords() {
        for (int b = 0; b < 256; b++) {
            String due = b == 59 ? "0" : Check.ARGUMENT;
            Check.due("byte between " + b, due, Check.record(Check.desk("t a b"), 0, "1" + byteOf(b) + "2"));
            due = isWordByte(b) ? "0" : Check.ARGUMENT;
            Check.due("byte in one cell " + b, due, Check.record(Check.desk("t a"), 0, "1" + byteOf(b) + "2"));
        }
    }

    /** "a cell that is 1 to 15 digits, or - and these, is a number; any other is a word". */
    private static void digitsOfCells() {
        for (int digits = 1; digits <= 17; digits++) {
            String number = "98765432109876543".substring(0, digits);
            String due = digits <= 15 ? number : Check.ARGUMENT;
            Check.due(digits + " digits", due, cellThen(number));
            Check.due("- and " + digits + " digits", digits <= 15 ? "-" + number : due, cellThen("-" + number));
        }
        Check.due("15 noughts", "0", cellThen("000000000000000"));
        Check.due("16 noughts", Check.ARGUMENT, cellThen("0000000000000000"));
        Check.due("- and 14 noughts and 1", "-1", cellThen("-000000000000001"));
        Check.due("- and a nought", "0", cellThen("-0"));
        String[] words = {"", "-", "--1", "-1-", "1-", "+1", " 1", "1 ", "- 1", "1.5", "1e5", "0x1", "12345678901-",
            "-1234567890-", "a1", "1a", "-a", "/", ":"};
        for (String word : words) {
            Check.due("word " + word, Check.ELEMENT, cellThen(word));
            Check.prints(() -> Check.desk("t a|" + word), "[{each t}{a}{end}]", "[" + word + "]");
        }
        String[] neither = {"123456789012-", "--12345678901", "1234567890123a", "+123456789012", " 123456789012"};
        for (String text : neither) {
            Check.due("neither " + text, Check.ARGUMENT, cellThen(text));
        }
    }

    /** What number answers of the cell, told by record and by cell alike; or why it is none. */
    private static String cellThen(String text) {
        MergeDesk desk = Check.desk("t a b|7;8");
        String byCell = Check.cell(desk, 0, 0, 1, text);
        String byRecord = Check.record(desk, 0, "9;" + text);
        Check.due("cell and record " + text, byCell.equals("void"), byRecord.equals("1"));
        if (!byCell.equals("void")) {
            Check.due("what it had", "8", Check.number(desk, 0, 0, 1));
            Check.due("no other", byCell, byRecord);
            return byCell;
        }
        Check.due("the same of both", Check.number(desk, 0, 0, 1), Check.number(desk, 0, 1, 1));
        return Check.number(desk, 0, 0, 1);
    }

    /** "A TEMPLATE is a text of at most 500 bytes." */
    private static void sizesOfTemplates() {
        int[] good = {0, 1, 2, 499, 500};
        for (int size : good) {
            Check.prints(MergeDesk::new, "y".repeat(size), "y".repeat(size));
        }
        int[] bad = {501, 502, 599, 600};
        for (int size : bad) {
            Check.refuses("y".repeat(size), 500);
        }
    }

    /** "A byte that is not { stands for itself". */
    private static void bytesOfTemplates() {
        for (int b = 0; b < 256; b++) {
            if (b != '{') {
                Check.prints(MergeDesk::new, byteOf(b), byteOf(b));
                Check.prints(MergeDesk::new, "{1}" + byteOf(b) + byteOf(b) + "{2}", "1" + byteOf(b) + byteOf(b) + "2");
            }
        }
    }

    /** "{{ stands for one {; all else that begins with { is a TAG, up to its }". */
    private static void braces() {
        Check.prints(MergeDesk::new, "{{", "{");
        Check.prints(MergeDesk::new, "{{{{", "{{");
        Check.prints(MergeDesk::new, "{{}", "{}");
        Check.prints(MergeDesk::new, "{{{1}", "{1");
        Check.prints(MergeDesk::new, "{1}{{", "1{");
        Check.prints(MergeDesk::new, "{1}}", "1}");
        Check.prints(MergeDesk::new, "}{1}", "}1");
        Check.prints(MergeDesk::new, "{{".repeat(250), "{".repeat(250));
        Check.refuses("{", 1);
        Check.refuses("{{{", 3);
        Check.refuses("{{".repeat(249) + "x{", 500);
    }
}
