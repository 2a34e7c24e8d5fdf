/** Promises 8 to 12 in full: what the tags print, the functions, the faults and their order. */
public final class MergeTests {
    private static final String MOST = "1000000000000000";

    public static void main(String[] args) {
        printing();
        money();
        widths();
        loops();
        joins();
        choices();
        variables();
        scopes();
        sums();
        products();
        percents();
        quotients();
        otherFunctions();
        sumAndCount();
        faultsOfNames();
        faultsOfKinds();
        faultsOfRange();
        orderOfFaults();
        outputLimit();
        outputLimitInTags();
        doneLimit();
        doneLimitOfBlocks();
        Check.end();
    }

    private static void printing() {
        MergeDesk desk = new MergeDesk();
        Check.prints(desk, "a{{b}}{{{{", "a{b}}{{");
        Check.prints(desk, "{0}{-0}{007}{12}{-5}", "00712-5");
        Check.prints(desk, "{''}{'a b'}{('x')}{'{{'}", "a bx{{");
        Check.prints(desk, "{999999999999999+1} {-999999999999999-1}", MOST + " -" + MOST);
        Check.prints(desk, "\u0000\u0001\u007f\u0080\u00ff", "\u0000\u0001\u007f\u0080\u00ff");
    }

    private static void money() {
        MergeDesk desk = new MergeDesk();
        Check.prints(desk, "{0:1} {0:4} {5:2} {-5:2} {50:2} {100:2} {-123:2} {9:1} {12345:4}",
                "0.0 0.0000 0.05 -0.05 0.50 1.00 -1.23 0.9 1.2345");
        Check.prints(desk, "{999999999999999+1:4}", "100000000000.0000");
        Check.prints(desk, "{-999999999999999-1:1}", "-100000000000000.0");
        Check.prints(desk, "{-9999:4}{-10000:4}", "-0.9999-1.0000");
    }

    private static void widths() {
        MergeDesk desk = new MergeDesk();
        Check.prints(desk, "[{1>1}{1>3}{1<3}{123>2}{123<2}]", "[1  11  123123]");
        Check.prints(desk, "[{'ab'>4}{'ab'<4}{''>2}{''<3}]", "[  abab       ]");
        Check.prints(desk, "[{-5:2>8}{-5:2<8}]", "[   -0.05-0.05   ]");
        Check.prints(desk, "[{1>20}]", "[" + " ".repeat(19) + "1]");
        Check.prints(desk, "[{1<20}]", "[1" + " ".repeat(19) + "]");
        Check.prints(desk, "[{-999999999999999-1:4>20}]", "[  -100000000000.0000]");
    }

    private static void loops() {
        MergeDesk desk = Check.shop();
        Check.prints(desk, "{each line}{no},{end}", "2,1,2,9,");
        Check.prints(desk, "{each item}[{name}]{end}", "[Pen][Ink][]");
        Check.prints(desk, "{each line no=2}{qty},{end}", "3,1,");
        Check.prints(desk, "{each line no='2'}{qty},{end}", "");
        Check.prints(desk, "{each item name='Ink'}{no}{end}", "2");
        Check.prints(desk, "{each item name=''}{no}{end}", "3");
        Check.prints(desk, "{each item name='ink'}{no}{end}", "");
        Check.prints(desk, "{each item price=-5}{no}{end}", "3");
        Check.prints(desk, "{each line}{end}x", "x");
        Check.prints(desk, "{each tax}{each tax}{each tax}{rate}{end}{end}{end}", "19");
    }

    private static void joins() {
        MergeDesk desk = Check.shop();
        Check.prints(desk, "{each line}{each item no=no}{name}{qty} {end}{end}", "Ink3 Pen10 Ink1 ");
        Check.prints(desk, "{each item}{name}:{each line no=no}{qty} {end};{end}", "Pen:10 ;Ink:3 1 ;:;");
        Check.prints(desk, "{let n=1}{each line no=n}{let n=2}{qty}{end}{n}", "102");
        Check.prints(desk, "{let n=2}{each line no=n}{let n=n+7}{qty}{end}{n}", "3116");
        Check.prints(desk, "{each line no=count(item)-1}{qty} {end}", "3 1 ");
        Check.prints(desk, "{each line no=2}{each line no=9}{qty}{end}{qty}{end}", "9391");
    }

    private static void choices() {
        MergeDesk desk = new MergeDesk();
        Check.prints(desk, "{if 1}a{else}b{end}{if 0}c{else}d{end}{if -1}e{end}{if 0}f{end}", "ade");
        Check.prints(desk, "{if 'x'}a{else}b{end}{if ''}c{else}d{end}{if '0'}e{end}{if ' '}f{end}", "adef");
        Check.prints(desk, "{if 1}{if 0}a{else}b{end}c{else}d{end}", "bc");
        Check.prints(desk, "{if 0}{if 1}a{end}{else}{if 1}b{else}c{end}d{end}e", "bde");
        Check.prints(desk, "{if 0}{x}{end}{if 1}{else}{x}{end}ok", "ok");
        Check.prints(desk, "{if 1}{else}{end}{if 0}{else}{end}", "");
    }

    private static void variables() {
        MergeDesk desk = Check.shop();
        Check.prints(desk, "{let a=1}{let b='w'}{let a=a+1}{a}{b}{let b=a}{b}", "2w2");
        Check.prints(desk, "{let s=0}{each line}{let s=s+qty}{end}{s}", "23");
        Check.prints(desk, "{let a='x'}{let b=a}{let a='y'}{b}{a}", "xy");
        Check.prints(desk, "{let min=3}{min}{min(min,2)}", "32");
        Check.due("the last one set", "3", Check.variable(desk, "min"));
        Check.faults(desk, "{a}", 1, 0, "");
        StringBuilder many = new StringBuilder();
        for (int i = 0; i < 55; i++) {
            many.append("{let ").append((char) ('a' + i % 26)).append((i < 26 ? "" : i < 52 ? "x" : "y")).append("=1}");
        }
        String template = many.substring(0, many.lastIndexOf("{", 500));
        Check.due("many variables", 0, Check.compile(desk, template));
        Check.due("merged", 0, desk.merge());
        Check.due("all are set", desk.about(2), desk.about(4));
    }

    private static void scopes() {
        MergeDesk desk = Check.shop();
        Check.prints(desk, "{each tax}{each line}{each item no=no}{rate}/{qty}/{no} {end}{end}{end}",
                "19/3/2 19/10/1 19/1/2 ");
        Check.prints(desk, "{let no=7}{each tax}{no}{end}{each line no=9}{no}{end}{no}", "797");
        Check.prints(desk, "{each line no=9}{let no=5}{no}{end}{no}", "95");
        Check.faults(desk, "{each line no=9}{qty}{end}{qty}", 1, 26, "9");
        Check.faults(desk, "{each item}{qty}{end}", 1, 11, "");
        Check.prints(desk, "{each line no=9}{each line no=1}{qty}{end}{qty}{end}", "109");
    }

    private static void sums() {
        MergeDesk desk = new MergeDesk();
        Check.prints(desk, "{1+2-3-4+5}{10-2-3}{2+3*4}{2*3+4}{(2+3)*4}{2-3*-4}", "1514102014");
        Check.prints(desk, "{-2*-3}{--5}{-(1+2)}{-1+2}{1--1}{2*3*4}", "65-31224");
        Check.prints(desk, "{999999999999999+1-1}", "999999999999999");
        Check.prints(desk, "{1" + "+1".repeat(240) + "}", "241");
    }

    private static void products() {
        MergeDesk desk = new MergeDesk();
        Check.prints(desk, "{100000000*10000000}", MOST);
        Check.prints(desk, "{-100000000*10000000}", "-" + MOST);
        Check.prints(desk, "{0*999999999999999}{999999999999999*0}{999999999999999*-1}", "00-999999999999999");
        Check.faults(desk, "{31622777*31622777}", 3, 0, "");
        Check.prints(desk, "{31622776*31622776}", "999999961946176");
        Check.faults(desk, "{999999999999999*999999999999999}", 3, 0, "");
        Check.faults(desk, "{999999999999999*-999999999999999}", 3, 0, "");
        Check.faults(desk, "{4294967296*4294967296}", 3, 0, "");
        Check.faults(desk, "{100000000*10000001}", 3, 0, "");
    }

    private static void percents() {
        MergeDesk desk = new MergeDesk();
        Check.prints(desk, "{pct(50,1)} {pct(150,1)} {pct(250,1)} {pct(350,1)}", "0 2 2 4");
        Check.prints(desk, "{pct(-50,1)} {pct(-150,1)} {pct(-250,1)} {pct(250,-1)}", "0 -2 -2 -2");
        Check.prints(desk, "{pct(49,1)} {pct(51,1)} {pct(149,1)} {pct(251,1)} {pct(-51,1)} {pct(-49,1)}",
                "0 1 1 3 -1 0");
        Check.prints(desk, "{pct(999,19)} {pct(0,5)} {pct(5,0)} {pct(200,50)}", "190 0 0 100");
        Check.prints(desk, "{pct(999999999999999+1,100)}", MOST);
        Check.prints(desk, "{pct(100,-999999999999999-1)}", "-" + MOST);
        Check.faults(desk, "{pct(999999999999999+1,101)}", 3, 0, "");
        Check.faults(desk, "{pct(100000000000001,1000)}", 3, 0, "");
        // 10^17 + 1 = 1133 * 88261253309797
        Check.faults(desk, "{pct(88261253309797,1133)}", 3, 0, "");
        Check.faults(desk, "{pct(-1133,88261253309797)}", 3, 0, "");
        Check.faults(desk, "{pct(999999999999999,999999999999999)}", 3, 0, "");
    }

    private static void quotients() {
        MergeDesk desk = new MergeDesk();
        Check.prints(desk, "{div(7,2)} {div(-7,2)} {div(7,-2)} {div(-7,-2)} {div(0,5)} {div(1,2)}", "3 -3 -3 3 0 0");
        Check.faults(desk, "{div(1,0)}", 3, 0, "");
        Check.faults(desk, "{div(0,0)}", 3, 0, "");
    }

    private static void otherFunctions() {
        MergeDesk desk = new MergeDesk();
        Check.prints(desk, "{min(3)}{min(3,1,2)}{min(-1,1)} {max(3)}{max(1,3,2)}{max(-2,-3)}", "31-1 33-2");
        Check.prints(desk, "{abs(-7)}{abs(7)}{abs(0)}", "770");
        Check.prints(desk, "{len('')}{len('abc')}{len('abcdefghijkl')}", "0312");
        Check.prints(desk, "{eq(1,1)}{eq(1,2)}{eq('a','a')}{eq('a','b')}{eq(1,'1')}{eq('1',1)}{eq('','')}{eq(0,'')}",
                "10100010");
        Check.prints(desk, "{lt(1,2)}{lt(2,1)}{lt(1,1)}{lt(-2,-1)}", "1001");
        Check.prints(desk, "{max(min(5,6),pct(100,len('abc')*100),abs(-4)+eq('a','a'))}", "300");
    }

    private static void sumAndCount() {
        MergeDesk desk = Check.shop();
        Check.prints(desk, "{sum(item,price)} {sum(item,name)} {sum(line,qty)} {count(line)} {count(tax)}",
                "3144 0 23 4 1");
        Check.prints(desk, "{each line no=9}{sum(line,qty)-qty}{end}", "14");
        Check.prints(desk, "{let item=1}{let price=2}{sum(item,price)}{count(item)}", "31443");
        Check.table(desk, "big n");
        Check.prints(desk, "{sum(big,n)}{count(big)}", "00");
        Check.record(desk, 3, "999999999999999");
        Check.record(desk, 3, "999999999999999");
        Check.faults(desk, "{sum(big,n)}", 3, 0, "");
        Check.record(desk, 3, "word");
        Check.record(desk, 3, "-999999999999998");
        Check.prints(desk, "{sum(big,n)}", MOST);
        Check.cell(desk, 3, 3, 0, "-999999999999997");
        Check.faults(desk, "{sum(big,n)}", 3, 0, "");
    }

    private static void faultsOfNames() {
        MergeDesk desk = Check.shop();
        String[] templates = {"{x}", "{-x}", "{1+x}", "{f(1)}", "{minn(1)}", "{eac(1)}",
            "{each x}{end}", "{each price}{end}", "{each item x=1}{end}", "{each item qty=1}{end}",
            "{each item no=x}{end}", "{if x}{end}", "{let a=x}", "{pct(1)}", "{pct(1,2,3)}", "{div(1)}",
            "{div(1,2,3)}", "{abs(1,2)}", "{len('a','b')}", "{eq(1)}", "{eq(1,2,3)}", "{lt(1)}", "{lt(1,2,3)}",
            "{sum(item)}", "{sum(item,no,no)}", "{count(item,item)}", "{sum(x,no)}", "{sum(item,qty)}",
            "{sum((item),no)}", "{sum(item,(no))}", "{sum('item',no)}", "{sum(item,'no')}", "{sum(1,no)}",
            "{sum(item,-no)}", "{sum(item,1)}", "{sum(item+1,no)}", "{count((item))}", "{count('item')}",
            "{count(1)}", "{count(no)}", "{count(-item)}", "{count(abs(1))}", "{item}", "{min}", "{x:2}", "{x>5}"};
        for (String template : templates) {
            Check.faults(desk, template, 1, 0, "");
        }
        Check.faults(desk, "{let no=1}{sum(item,x)}", 1, 10, "");
        Check.prints(desk, "{if 0}{x}{f(1)}{each y}{end}{end}", "");
    }

    private static void faultsOfKinds() {
        MergeDesk desk = Check.shop();
        String[] templates = {"{'a':1}", "{'':4}", "{'a'+1}", "{1+'a'}", "{'1'-1}", "{1-'1'}", "{'a'*1}", "{1*''}",
            "{-'a'}", "{-('1')}", "{pct('a',1)}", "{pct(1,'a')}", "{div('a',1)}", "{div(1,'a')}", "{min('a')}",
            "{min(1,'a')}", "{max(1,2,'a')}", "{abs('a')}", "{len(1)}", "{len(1+1)}", "{lt('a',1)}", "{lt(1,'a')}",
            "{lt('a','b')}", "{if 'a'+1}{end}", "{let a=-'b'}", "{each item no='a'*2}{end}"};
        for (String template : templates) {
            Check.faults(desk, template, 2, 0, "");
        }
        Check.faults(desk, "{each item}{no}{name+1}{end}", 2, 15, "1");
        Check.faults(desk, "{each item no=2}{len(no)}{end}", 2, 16, "");
    }

    private static void faultsOfRange() {
        MergeDesk desk = Check.shop();
        String[] templates = {"{999999999999999+2}", "{-999999999999999-2}", "{999999999999999+2-5}",
            "{let a=999999999999999+2}", "{if 999999999999999+2}{end}", "{each item no=999999999999999+2}{end}",
            "{eq(999999999999999+2,1)}", "{min(1,999999999999999*2)}", "{(999999999999999+2)*0}",
            "{0*(999999999999999+2)}", "{abs(-999999999999999-2)}", "{div(999999999999999+2,1)}"};
        for (String template : templates) {
            Check.faults(desk, template, 3, 0, "");
        }
        Check.faults(desk, "ok{let a=1}{a}{a*999999999999999+2}", 3, 14, "ok1");
        Check.prints(desk, "{if 0}{999999999999999+2}{end}", "");
    }

    private static void orderOfFaults() {
        MergeDesk desk = Check.shop();
        Check.faults(desk, "{'a'+x}", 2, 0, "");
        Check.faults(desk, "{x+'a'}", 1, 0, "");
        Check.faults(desk, "{1+'a'*x}", 2, 0, "");
        Check.faults(desk, "{1*2+'a'+x}", 2, 0, "");
        Check.faults(desk, "{999999999999999*2+x}", 3, 0, "");
        Check.faults(desk, "{999999999999999+2+x}", 3, 0, "");
        Check.faults(desk, "{1+x*(999999999999999*2)}", 1, 0, "");
        Check.faults(desk, "{f(999999999999999*2)}", 1, 0, "");
        Check.faults(desk, "{pct('a'+1)}", 1, 0, "");
        Check.faults(desk, "{abs('a',1)}", 1, 0, "");
        Check.faults(desk, "{pct('a',x)}", 2, 0, "");
        Check.faults(desk, "{pct(x,'a')}", 1, 0, "");
        Check.faults(desk, "{div(1,'a')}", 2, 0, "");
        Check.faults(desk, "{div('a',0)}", 2, 0, "");
        Check.faults(desk, "{min(1,'a',x)}", 2, 0, "");
        Check.faults(desk, "{min(1,x,'a')}", 1, 0, "");
        Check.faults(desk, "{pct(999999999999999,1000)+x}", 3, 0, "");
        Check.faults(desk, "{eq(x,'a'+1)}", 1, 0, "");
        Check.faults(desk, "{eq('a'+1,x)}", 2, 0, "");
        Check.faults(desk, "{lt('a',x)}", 2, 0, "");
        Check.faults(desk, "{each x no='a'+1}{end}", 1, 0, "");
        Check.faults(desk, "{each item x='a'+1}{end}", 1, 0, "");
        Check.faults(desk, "{each item no='a'+1}{x}{end}", 2, 0, "");
        Check.faults(desk, "{each item no=5}{x}{end}{'a':1}", 2, 24, "");
        Check.faults(desk, "{x:2}", 1, 0, "");
    }

    private static void outputLimit() {
        MergeDesk desk = new MergeDesk();
        Check.table(desk, "t a");
        for (int i = 0; i < 10; i++) {
            Check.record(desk, 0, "" + i);
        }
        String ten = "0123456789".repeat(10);
        String most = ten.repeat(40);
        Check.prints(desk, "{each t}" + ten.repeat(4) + "{end}", most);
        Check.prints(desk, "{each t}" + ten.repeat(4) + "{end}{let a=1}{''}{if 1}{end}", most);
        Check.due("the let behind it", "1", Check.variable(desk, "a"));
        Check.faults(desk, "{each t}" + ten.repeat(4) + "{end}x", 4, 413, most);
        Check.faults(desk, "{each t}" + ten.repeat(4) + "{end}{{x", 4, 413, most);
        Check.faults(desk, "{each t}" + ten.repeat(4) + "{end}{1}", 4, 413, most);
        Check.faults(desk, "{each t}" + ten.repeat(4) + "{end}{''>1}", 4, 413, most);
        Check.faults(desk, "y{each t}" + ten.repeat(4) + "{end}x", 4, 408, ("y" + most).substring(0, 4000));
        Check.faults(desk, "{each t}" + ten.repeat(4) + "ab{end}", 4, 8 + 382,
                (ten.repeat(4) + "ab").repeat(10).substring(0, 4000));
    }

    private static void outputLimitInTags() {
        MergeDesk desk = new MergeDesk();
        Check.table(desk, "t a");
        for (int i = 0; i < 10; i++) {
            Check.record(desk, 0, "" + i);
        }
        String filled = "{each t}" + "x".repeat(399) + "{end}";
        String most = "x".repeat(3990);
        Check.prints(desk, filled + "{12345>10}", most + "     12345");
        Check.faults(desk, filled + "{12345>11}", 4, 412, most + "      1234");
        Check.faults(desk, filled + "{12345<11}", 4, 412, most + "12345     ");
        Check.faults(desk, filled + "{12345>16}", 4, 412, most + "          ");
        Check.faults(desk, filled + "{-12345678:4}{x}", 1, 425, most + "-1234.5678");
        Check.faults(desk, filled + "{-123456789:4}{x}", 4, 412, most + "-12345.678");
        Check.faults(desk, filled + "{'abcdefghijkl'}", 4, 412, most + "abcdefghij");
        Check.faults(desk, filled + "0123456789{let a=1}{x}", 1, 431, most + "0123456789");
    }

    private static void doneLimit() {
        MergeDesk desk = sixteen();
        Check.due("compile", 0, Check.compile(desk, "{each t}{each t}{each t}{''}{end}{end}{end}"));
        Check.due("1 and 16 and 256 and a 3001st", -50024, desk.merge());
        Check.due("3000 were done", 3000, desk.about(3));
        Check.due("nothing came out", 0, desk.size());

        // 8 + 16 * (1 + 16 * 11 + 10) = 3000
        String exact = "{let z=0}".repeat(7) + "{each t}{each t}" + "{z}".repeat(11) + "{end}" + "{''}".repeat(10) + "{end}";
        Check.due("compile", 0, Check.compile(desk, exact));
        Check.due("merge", 16 * 16 * 11, desk.merge());
        Check.due("just 3000", 3000, desk.about(3));
        Check.faults(desk, exact + "x{x}y", 5, exact.length() + 1, "0".repeat(16 * 16 * 11) + "x");
        Check.due("still 3000", 3000, desk.about(3));
        Check.faults(desk, exact + "{let b=1}", 5, exact.length(), "0".repeat(16 * 16 * 11));
        Check.due("the let was not done", 1, desk.about(4));
        Check.faults(desk, exact + "{each nope}{end}", 5, exact.length(), "0".repeat(16 * 16 * 11));
        Check.faults(desk, exact + "{if 'a'+1}{end}", 5, exact.length(), "0".repeat(16 * 16 * 11));
    }

    private static void doneLimitOfBlocks() {
        MergeDesk desk = sixteen();
        // 1 + 16 + 256 begins, and 16 * 16 * 16 times a byte that is no tag
        String bytes = "{each t}{each t}{each t}.{end}{end}{end}";
        Check.due("compile", 0, Check.compile(desk, bytes));
        Check.due("more than 4000", -40024, desk.merge());
        Check.due("begins alone", 1 + 16 + 251, desk.about(3));
        String empty = "{each t}{each t}{each t}{end}{end}{end}";
        Check.due("compile", 0, Check.compile(desk, empty));
        Check.due("merge", 0, desk.merge());
        Check.due("begins alone", 273, desk.about(3));
        Check.prints(desk, "{each t}{if a}x{else}y{end}{end}", "y" + "x".repeat(15));
        Check.due("each and ifs", 17, desk.about(3));
        Check.prints(desk, "{if 0}{1}{2}{else}{3}{end}", "3");
        Check.due("those that were not chosen don't count", 2, desk.about(3));
        Check.prints(desk, "{each t a=99}{1}{end}", "");
        Check.due("a loop without records counts", 1, desk.about(3));
        String deep = "{each t}".repeat(6) + "{end}".repeat(6);
        Check.due("compile", 0, Check.compile(desk, deep));
        Check.due("the innermost each is too many", -50040, desk.merge());
    }

    private static MergeDesk sixteen() {
        MergeDesk desk = new MergeDesk();
        Check.table(desk, "t a");
        for (int i = 0; i < 16; i++) {
            Check.record(desk, 0, "" + i);
        }
        return desk;
    }
}
