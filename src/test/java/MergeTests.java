import java.math.BigDecimal;
import java.math.RoundingMode;

/** Promise 8 in full: what the tags print, names, sums and functions. The faults are in FaultTests. */
public final class MergeTests {
    private static final String MOST = "1000000000000000";
    private static final Check.Maker EMPTY = MergeDesk::new;
    private static final Check.Maker SHOP = Check::shop;

    public static void main(String[] args) {
        printing();
        money();
        moneyByPoints();
        widths();
        widthsByLength();
        loops();
        loopsByRecords();
        equalCells();
        joins();
        workedOutOnce();
        choices();
        variables();
        manyVariables();
        nothingSetAtFirst();
        scopes();
        sixLoops();
        sums();
        products();
        percents();
        percentsByProduct();
        percentsAtTheLimit();
        quotients();
        leastAndMost();
        otherFunctions();
        sums16();
        counts();
        places();
        Check.end();
    }

    /** "{EXPR} prints a value: a word as it is, a number with a - before it if it is below 0, and its digits." */
    private static void printing() {
        Check.prints(EMPTY, "", "");
        Check.prints(EMPTY, "a{{b}}{{{{", "a{b}}{{");
        Check.prints(EMPTY, "{0}{-0}{007}{12}{-5}", "00712-5");
        Check.prints(EMPTY, "{-1}{1}{9}{10}{-9}{-10}", "-11910-9-10");
        Check.prints(EMPTY, "{''}{'a b'}{('x')}{'{{'}", "a bx{{");
        Check.prints(EMPTY, "{'007'}{'-5'}{'-0'}", "007-5-0");
        Check.prints(EMPTY, "{999999999999999} {-999999999999999}", "999999999999999 -999999999999999");
        Check.prints(EMPTY, "{999999999999999+1} {-999999999999999-1}", MOST + " -" + MOST);
        Check.prints(() -> Check.desk("t a|-000|-007|0012|-a"), "{each t}{a},{end}", "0,-7,12,-a,");
    }

    /** "{EXPR:P}, P 1 to 4, prints a number with so many digits behind a point (at least one before it)." */
    private static void money() {
        Check.prints(EMPTY, "{0:1} {0:4} {5:2} {-5:2} {50:2} {100:2} {-123:2} {9:1} {12345:4}",
                "0.0 0.0000 0.05 -0.05 0.50 1.00 -1.23 0.9 1.2345");
        Check.prints(EMPTY, "{999999999999999+1:4}", "100000000000.0000");
        Check.prints(EMPTY, "{-999999999999999-1:1}", "-100000000000000.0");
        Check.prints(EMPTY, "{-9999:4}{-10000:4}", "-0.9999-1.0000");
    }

    /** "so many digits behind a point (at least one before it)": on both sides of each power of ten. */
    private static void moneyByPoints() {
        String[] numbers = {"0", "1", "9", "10", "99", "100", "999", "1000", "9999", "10000", "99999", "100000",
            "999999999999999"};
        for (String number : numbers) {
            for (int point = 1; point <= 4; point++) {
                String due = new BigDecimal(number).movePointLeft(point).setScale(point).toPlainString();
                Check.prints(EMPTY, "{" + number + ":" + point + "}", due);
                Check.prints(EMPTY, "{-" + number + ":" + point + "}", number.equals("0") ? due : "-" + due);
            }
        }
    }

    /** ">W or <W, W 1 to 20 ..: spaces come before, or behind, until there are W bytes." */
    private static void widths() {
        Check.prints(EMPTY, "[{1>1}{1>3}{1<3}{123>2}{123<2}]", "[1  11  123123]");
        Check.prints(EMPTY, "[{'ab'>4}{'ab'<4}{''>2}{''<3}]", "[  abab       ]");
        Check.prints(EMPTY, "[{-5:2>8}{-5:2<8}]", "[   -0.05-0.05   ]");
        Check.prints(EMPTY, "[{1>20}]", "[" + " ".repeat(19) + "1]");
        Check.prints(EMPTY, "[{1<20}]", "[1" + " ".repeat(19) + "]");
        Check.prints(EMPTY, "[{-999999999999999-1:4>20}]", "[  -100000000000.0000]");
    }

    /** "until there are W bytes": every W, with less, just as many, and more bytes than that. */
    private static void widthsByLength() {
        String[] exprs = {"''", "'a'", "'abcdefghijk'", "'abcdefghijkl'", "7", "-999999999999999", "-7:4",
            "-999999999999999-1:1"};
        String[] texts = {"", "a", "abcdefghijk", "abcdefghijkl", "7", "-999999999999999", "-0.0007",
            "-100000000000000.0"};
        for (int i = 0; i < exprs.length; i++) {
            for (int width = 1; width <= 20; width++) {
                String spaces = " ".repeat(Math.max(0, width - texts[i].length()));
                Check.prints(EMPTY, "{" + exprs[i] + ">" + width + "}", spaces + texts[i]);
                Check.prints(EMPTY, "{" + exprs[i] + "<" + width + "}", texts[i] + spaces);
            }
        }
    }

    /** "{each T} ... {end}: what is between, once for each record of the table with the name T, in order." */
    private static void loops() {
        Check.prints(SHOP, "{each line}{no},{end}", "2,1,2,9,");
        Check.prints(SHOP, "{each item}[{name}]{end}", "[Pen][Ink][]");
        Check.prints(SHOP, "{each line}{end}x", "x");
        Check.prints(SHOP, "{each tax}{each tax}{each tax}{rate}{end}{end}{end}", "19");
    }

    /** "once for each record": none, one, and up to 16; in order, also when one was dropped. */
    private static void loopsByRecords() {
        for (int records = 0; records <= 16; records++) {
            String told = Check.counted("t a", records);
            StringBuilder due = new StringBuilder("<");
            for (int i = 0; i < records; i++) {
                due.append(i).append(';');
            }
            Check.prints(() -> Check.desk("s a|77", told, "u a|88"), "<{each t}{a};{end}", due.toString());
        }
        MergeDesk desk = Check.desk(Check.counted("t a", 3));
        Check.drop(desk, 0, 0);
        Check.record(desk, 0, "x");
        Check.prints(desk, "{each t}{a}{end}", "12x");
    }

    /** "{each T C=EXPR}: for those whose cell in column C is equal to the value". */
    private static void equalCells() {
        Check.prints(SHOP, "{each line no=2}{qty},{end}", "3,1,");
        Check.prints(SHOP, "{each line no='2'}{qty},{end}", "");
        Check.prints(SHOP, "{each item name='Ink'}{no}{end}", "2");
        Check.prints(SHOP, "{each item name=''}{no}{end}", "3");
        Check.prints(SHOP, "{each item name='ink'}{no}{end}", "");
        Check.prints(SHOP, "{each item name='In'}{no}{end}", "");
        Check.prints(SHOP, "{each item name='Ink '}{no}{end}", "");
        Check.prints(SHOP, "{each item price=-5}{no}{end}", "3");
        Check.prints(SHOP, "{each item price=5}{no}{end}", "");
        Check.Maker noughts = () -> Check.desk("t a b|0;1|;2|-0;3|00;4| ;5");
        Check.prints(noughts, "{each t a=0}{b}{end}", "134");
        Check.prints(noughts, "{each t a=''}{b}{end}", "2");
        Check.prints(noughts, "{each t a=' '}{b}{end}", "5");
        Check.prints(noughts, "{each t a='0'}{b}{end}", "");
        Check.prints(() -> Check.desk("t a b|1;1|1;2|1;3"), "{each t a=1}{b}{end}{each t b=3}{b}{end}", "1233");
        Check.prints(() -> Check.desk("t a|999999999999999|-999999999999999"),
                "{each t a=999999999999999}{a}{end}{each t a=999999999999999+1}{a}{end}", "999999999999999");
    }

    /** "loops over records that are joined by keys". */
    private static void joins() {
        Check.prints(SHOP, "{each line}{each item no=no}{name}{qty} {end}{end}", "Ink3 Pen10 Ink1 ");
        Check.prints(SHOP, "{each item}{name}:{each line no=no}{qty} {end};{end}", "Pen:10 ;Ink:3 1 ;:;");
        Check.prints(SHOP, "{each line no=count(item)-1}{qty} {end}", "3 1 ");
        Check.prints(SHOP, "{each line no=2}{each line no=9}{qty}{end}{qty}{end}", "9391");
    }

    /** "the value, which is worked out once, before the loop begins": not with the loop's own record. */
    private static void workedOutOnce() {
        Check.prints(SHOP, "{let n=1}{each line no=n}{let n=2}{qty}{end}{n}", "102");
        Check.prints(SHOP, "{let n=2}{each line no=n}{let n=n+7}{qty}{end}{n}", "3116");
        Check.prints(SHOP, "{let n='Pen'}{each item name=n}{let n='Ink'}{no}{end}{n}", "1Ink");
        Check.prints(SHOP, "{let no=9}{each line no=no}{qty}{end}", "9");
        Check.prints(SHOP, "{let qty=1}{each line no=qty*2}{qty}.{end}", "3.1.");
        Check.faults(SHOP, "{each line no=qty}{end}", 1, 0, "");
        Check.prints(SHOP, "{let n=2}{each line no=n}{each line no=n-1}{let n=5}{qty}{end}{qty}{end}",
                "1031");
    }

    /** "the first part if the value is a number that is not 0, or a word that is not empty; otherwise the second". */
    private static void choices() {
        Check.prints(EMPTY, "{if 1}a{else}b{end}{if 0}c{else}d{end}{if -1}e{end}{if 0}f{end}", "ade");
        Check.prints(EMPTY, "{if 'x'}a{else}b{end}{if ''}c{else}d{end}{if '0'}e{end}{if ' '}f{end}", "adef");
        Check.prints(EMPTY, "{if -0}a{else}b{end}{if 1-1}a{else}b{end}{if 000}a{else}b{end}", "bbb");
        Check.prints(EMPTY, "{if 999999999999999+1}a{end}{if -999999999999999-1}a{end}", "aa");
        Check.prints(EMPTY, "{if 1}{if 0}a{else}b{end}c{else}d{end}", "bc");
        Check.prints(EMPTY, "{if 0}{if 1}a{end}{else}{if 1}b{else}c{end}d{end}e", "bde");
        Check.prints(EMPTY, "{if 0}{x}{end}{if 1}{else}{x}{end}ok", "ok");
        Check.prints(EMPTY, "{if 1}{else}{end}{if 0}{else}{end}", "");
        Check.prints(EMPTY, "{if 4294967296}a{else}b{end}", "a");
    }

    /** "{let N=EXPR}: the variable N has that value from then on." */
    private static void variables() {
        Check.prints(SHOP, "{let a=1}{let b='w'}{let a=a+1}{a}{b}{let b=a}{b}", "2w2");
        Check.prints(SHOP, "{let s=0}{each line}{let s=s+qty}{end}{s}", "23");
        Check.prints(SHOP, "{let a='x'}{let b=a}{let a='y'}{b}{a}", "xy");
        Check.prints(SHOP, "{let min=3}{min}{min(min,2)}", "32");
        Check.prints(SHOP, "{each tax}{let a=rate}{end}{a}", "19");
        Check.prints(SHOP, "{if 0}{let a=1}{else}{let a=2}{end}{a}", "2");
        Check.faults(SHOP, "{a}{let a=1}", 1, 0, "");
        Check.faults(SHOP, "{if 0}{let a=1}{end}{a}", 1, 20, "");
        Check.faults(SHOP, "{let a=a}", 1, 0, "");
    }

    /** "the variable N has that value from then on": as many as a template has room for. */
    private static void manyVariables() {
        StringBuilder many = new StringBuilder();
        int count = 0;
        for (char first = 'a'; first <= 'z'; first++) {
            many.append("{let ").append(first).append("=").append(count).append("}");
            many.append("{let ").append(first).append("x=1}");
            count += 2;
        }
        String template = many.substring(0, many.lastIndexOf("{", 490));
        MergeDesk desk = new MergeDesk();
        Check.prints(desk, template + "{a}{b}", "02");
        Check.due("all are set", desk.about(2) - 2, desk.about(4));
        Check.due("the first", 0, Check.variable(desk, "a"));
        Check.due("a late one", 46, Check.variable(desk, "x"));
    }

    /** "(no variable is set when it begins)". */
    private static void nothingSetAtFirst() {
        MergeDesk desk = new MergeDesk();
        Check.prints(desk, "{let a=1}{a}", "1");
        Check.faults(desk, "{a}", 1, 0, "");
        Check.due("none is set", 0, desk.about(4));
        Check.due("not even this one", Check.ELEMENT, Check.variable(desk, "a"));
        Check.faults(desk, "x{if eq(1,1)}{b}{end}{let b=1}", 1, 13, "x");
        Check.due("the same again", "-10013", Check.merge(desk));
    }

    /** "a NAME stands for the cell .. of the innermost {each} that has such a column, else for the variable". */
    private static void scopes() {
        Check.prints(SHOP, "{each tax}{each line}{each item no=no}{rate}/{qty}/{no} {end}{end}{end}",
                "19/3/2 19/10/1 19/1/2 ");
        Check.prints(SHOP, "{let no=7}{each tax}{no}{end}{each line no=9}{no}{end}{no}", "797");
        Check.prints(SHOP, "{each line no=9}{let no=5}{no}{end}{no}", "95");
        Check.faults(SHOP, "{each line no=9}{qty}{end}{qty}", 1, 26, "9");
        Check.faults(SHOP, "{each item}{qty}{end}", 1, 11, "");
        Check.prints(SHOP, "{each line no=9}{each line no=1}{qty}{end}{qty}{end}", "109");
        Check.prints(SHOP, "{each line no=9}{each tax}{no}{qty}{rate}{end}{end}", "9919");
        Check.Maker six = () -> Check.desk("t a b c d e f|1;2;3;4;5;6");
        Check.prints(six, "{let g=7}{let f=8}{each t}{a}{f}{g}{end}{f}", "1678");
        Check.prints(six, "{each t f=6}{a}{end}{each t a=1}{f}{end}{sum(t,a)}{sum(t,f)}", "1616");
        Check.faults(six, "{each t}{a}{g}{end}", 1, 11, "1");
        Check.prints(() -> Check.desk("t a"), "{let a=7}{each t}{a}{end}{a}", "7");
    }

    /** "the innermost {each} that has such a column": through all six that can be open. */
    private static void sixLoops() {
        Check.Maker four = () -> Check.desk("ta a x|1;9", "tb b x|2;8", "tc c x|3;7", "td d x|4;6");
        Check.prints(four, "{each ta}{each tb}{each tc}{each td}{each ta}{each tb}{a}{b}{c}{d}{x}{end}{x}{end}{x}{end}"
                + "{x}{end}{x}{end}{x}{end}", "1234896789");
        Check.prints(four, "{let x=5}{each ta}{x}{end}{x}", "95");
    }

    /** "TERMS with + or - between; a term: FACTORS with * between, all from the left to the right". */
    private static void sums() {
        Check.prints(EMPTY, "{1+2-3-4+5}{10-2-3}{2+3*4}{2*3+4}{(2+3)*4}{2-3*-4}", "1514102014");
        Check.prints(EMPTY, "{-2*-3}{--5}{-(1+2)}{-1+2}{1--1}{2*3*4}", "65-31224");
        Check.prints(EMPTY, "{999999999999999+1-1}", "999999999999999");
        Check.prints(EMPTY, "{1" + "+1".repeat(240) + "}", "241");
        Check.prints(EMPTY, "{1" + "-1".repeat(240) + "}", "-239");
        Check.prints(EMPTY, "{1" + "*1".repeat(240) + "}", "1");
        Check.prints(EMPTY, "{-------5}{(((((((6)))))))}{-(-(-(-7)))}", "-567");
    }

    /** "FACTORS with * between": up to 10^15 and -10^15. */
    private static void products() {
        Check.prints(EMPTY, "{100000000*10000000}", MOST);
        Check.prints(EMPTY, "{-100000000*10000000}", "-" + MOST);
        Check.prints(EMPTY, "{0*999999999999999}{999999999999999*0}{999999999999999*-1}", "00-999999999999999");
        Check.prints(EMPTY, "{31622776*31622776}", "999999961946176");
        Check.prints(EMPTY, "{(999999999999999+1)*1} {1*(-999999999999999-1)}", MOST + " -" + MOST);
    }

    /** "pct(x, p): x * p / 100, rounded to the nearest, halves to the even one". */
    private static void percents() {
        Check.prints(EMPTY, "{pct(50,1)} {pct(150,1)} {pct(250,1)} {pct(350,1)}", "0 2 2 4");
        Check.prints(EMPTY, "{pct(-50,1)} {pct(-150,1)} {pct(-250,1)} {pct(250,-1)}", "0 -2 -2 -2");
        Check.prints(EMPTY, "{pct(49,1)} {pct(51,1)} {pct(149,1)} {pct(251,1)} {pct(-51,1)} {pct(-49,1)}",
                "0 1 1 3 -1 0");
        Check.prints(EMPTY, "{pct(999,19)} {pct(0,5)} {pct(5,0)} {pct(200,50)}", "190 0 0 100");
    }

    /** "rounded to the nearest, halves to the even one": every product from -260 to 260. */
    private static void percentsByProduct() {
        for (int product = -260; product <= 260; product++) {
            String due = BigDecimal.valueOf(product, 2).setScale(0, RoundingMode.HALF_EVEN).toPlainString();
            Check.prints(EMPTY, "{pct(" + product + ",1)}{pct(-1," + product + ")}",
                    due + (due.equals("0") ? "0" : due.startsWith("-") ? due.substring(1) : "-" + due));
        }
    }

    /** The last products that are taken, and their halves. */
    private static void percentsAtTheLimit() {
        Check.prints(EMPTY, "{pct(999999999999999+1,100)}", MOST);
        Check.prints(EMPTY, "{pct(100,-999999999999999-1)}", "-" + MOST);
        Check.prints(EMPTY, "{pct(-999999999999999-1,-100)}", MOST);
        String[][] dues = {{"18645507,5363222357", MOST}, {"5450,18348623853211", MOST},
            {"3550,28169014084507", "999999999999998"}, {"1171,85397096498719", "999999999999999"},
            {"235281,425023695071", MOST}};
        for (String[] due : dues) {
            Check.prints(EMPTY, "{pct(" + due[0] + ")} {pct(-" + due[0] + ")}", due[1] + " -" + due[1]);
        }
    }

    /** "div(x, y): x / y, rounded towards 0". */
    private static void quotients() {
        Check.prints(EMPTY, "{div(7,2)} {div(-7,2)} {div(7,-2)} {div(-7,-2)} {div(0,5)} {div(1,2)}", "3 -3 -3 3 0 0");
        Check.prints(EMPTY, "{div(5,6)}{div(6,6)}{div(-5,6)}{div(-6,6)}{div(5,-6)}{div(-6,-6)}", "010-101");
        Check.prints(EMPTY, "{div(999999999999999+1,-1)} {div(-999999999999999-1,-1)}", "-" + MOST + " " + MOST);
        Check.prints(EMPTY, "{div(1,999999999999999+1)}{div(999999999999999+1,999999999999999+1)}", "01");
    }

    /** "min and max of one or more numbers". */
    private static void leastAndMost() {
        Check.prints(EMPTY, "{min(3)}{min(3,1,2)}{min(-1,1)} {max(3)}{max(1,3,2)}{max(-2,-3)}", "31-1 33-2");
        Check.prints(EMPTY, "{min(1,2,3)}{min(2,1,3)}{min(3,2,1)}{max(1,2,3)}{max(1,3,2)}{max(3,2,1)}", "111333");
        Check.prints(EMPTY, "{min(5,5)}{max(5,5)}{min(0,0,0)}{max(-1)}", "550-1");
        Check.prints(EMPTY, "{min(7" + ",8".repeat(200) + ",6)}", "6");
        Check.prints(EMPTY, "{max(7" + ",6".repeat(200) + ",8)}", "8");
        Check.prints(EMPTY, "{max(-999999999999999-1,999999999999999+1)}", MOST);
        Check.prints(EMPTY, "{min(-999999999999999-1,999999999999999+1)}", "-" + MOST);
    }

    /** abs, len, eq and lt. */
    private static void otherFunctions() {
        Check.prints(EMPTY, "{abs(-7)}{abs(7)}{abs(0)}{abs(-1)}", "7701");
        Check.prints(EMPTY, "{abs(-999999999999999-1)}", MOST);
        for (int length = 0; length <= 12; length++) {
            Check.prints(EMPTY, "{len('" + "abcdefghijkl".substring(0, length) + "')}", "" + length);
        }
        Check.prints(() -> Check.desk("t a||abcdefghijkl| "), "{each t}{len(a)};{let b=a}{len(b)},{end}", "0;0,12;12,1;1,");
        Check.prints(EMPTY, "{eq(1,1)}{eq(1,2)}{eq('a','a')}{eq('a','b')}{eq(1,'1')}{eq('1',1)}{eq('','')}{eq(0,'')}",
                "10100010");
        Check.prints(EMPTY, "{eq(-1,1)}{eq(-0,0)}{eq('a','A')}{eq('a','a ')}{eq('abc','abd')}{eq('','a')}{eq(007,7)}",
                "0100001");
        Check.prints(EMPTY, "{eq(999999999999999+1,999999999999999)}{eq(4294967296,0)}", "00");
        Check.prints(EMPTY, "{lt(1,2)}{lt(2,1)}{lt(1,1)}{lt(-2,-1)}{lt(-1,-2)}{lt(-1,0)}{lt(0,-1)}", "1001010");
        Check.prints(EMPTY, "{lt(999999999999999,999999999999999+1)}{lt(-999999999999999-1,999999999999999+1)}", "11");
        Check.prints(EMPTY, "{max(min(5,6),pct(100,len('abc')*100),abs(-4)+eq('a','a'))}", "300");
    }

    /** "sum(T, C): all numbers in column C of table T (words count as 0)". */
    private static void sums16() {
        Check.prints(SHOP, "{sum(item,price)} {sum(item,name)} {sum(line,qty)}", "3144 0 23");
        Check.prints(SHOP, "{each line no=9}{sum(line,qty)-qty}{end}", "14");
        Check.prints(SHOP, "{let item=1}{let price=2}{sum(item,price)}", "3144");
        Check.prints(() -> Check.desk("t a b"), "{sum(t,a)}{sum(t,b)}", "00");
        Check.prints(() -> Check.desk("t a b|5;x|;7|y;-9"), "{sum(t,a)}{sum(t,b)}", "5-2");
        for (int records = 0; records <= 16; records++) {
            String told = Check.counted("t a", records);
            Check.prints(() -> Check.desk("s a|99", told), "{sum(t,a)}", "" + records * (records - 1) / 2);
        }
        String most = "|999999999999999";
        String least = "|-999999999999999";
        Check.prints(() -> Check.desk("t a" + most + "|1"), "{sum(t,a)}", MOST);
        Check.prints(() -> Check.desk("t a" + least + "|-1"), "{sum(t,a)}", "-" + MOST);
        Check.prints(() -> Check.desk("t a" + most.repeat(8) + least.repeat(8)), "{sum(t,a)}", "0");
        Check.prints(() -> Check.desk("t a" + least.repeat(8) + most.repeat(8)), "{sum(t,a)}", "0");
        Check.prints(() -> Check.desk("t a" + most + most + "|word|-999999999999998"), "{sum(t,a)}", MOST);
        Check.prints(() -> Check.desk("t a" + least + least + "|999999999999998"), "{sum(t,a)}", "-" + MOST);
    }

    /** "count(T): how many records". */
    private static void counts() {
        for (int records = 0; records <= 16; records++) {
            String told = Check.counted("t a", records);
            Check.prints(() -> Check.desk("s a|99", told), "{count(t)}", "" + records);
        }
        Check.prints(SHOP, "{count(item)}{count(line)}{count(tax)}", "341");
        Check.prints(SHOP, "{let item=9}{count(item)}{each item no=1}{count(line)}{end}", "34");
    }

    /** "the place of the { of the tag in which it was": from the first to the last that there can be. */
    private static void places() {
        Check.faults(EMPTY, "{x}", 1, 0, "");
        Check.faults(EMPTY, "y{x}", 1, 1, "y");
        Check.faults(EMPTY, "{{{x}", 1, 2, "{");
        Check.faults(EMPTY, "y".repeat(497) + "{x}", 1, 497, "y".repeat(497));
        Check.faults(EMPTY, "{1}{'a':2}", 2, 3, "1");
        Check.faults(EMPTY, "{if 1}{if 1}{end}{x}{end}", 1, 17, "");
        Check.faults(EMPTY, "{if x}{1}{end}", 1, 0, "");
        Check.faults(EMPTY, "a{if 1}b{else}c{end}{let d=x}", 1, 20, "ab");
        Check.faults(SHOP, "{each tax}y{each item no=x}{end}{end}", 1, 11, "y");
        Check.faults(SHOP, "{each tax}{1}{end}{x}", 1, 18, "1");
        Check.faults(SHOP, "{each line}{div(5,qty-10)}{end}", 3, 11, "0");
    }
}
