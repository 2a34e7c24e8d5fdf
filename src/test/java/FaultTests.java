/** FAULTS 1 to 5 of merging: the last that is fine and the first that is not, their order, and what came out. */
public final class FaultTests {
    private static final String MOST = "1000000000000000";
    private static final Check.Maker EMPTY = MergeDesk::new;
    private static final Check.Maker SHOP = Check::shop;
    private static final Check.Maker SIXTEEN = () -> Check.desk(Check.counted("t a", 16));
    private static final Check.Maker TEN = () -> Check.desk(Check.counted("t a", 10));

    public static void main(String[] args) {
        names();
        argumentCounts();
        namesAlone();
        kinds();
        ranges();
        rangesOfProducts();
        rangesOfFunctions();
        rangesOfSums();
        zeroDivisors();
        theFirstOneCounts();
        functionsBeforeArguments();
        argumentsFromTheLeft();
        operandsFromTheLeft();
        tableThenColumnThenValue();
        outputOfBytes();
        outputOfTags();
        outputByPieces();
        outputThatIsFull();
        doneTags();
        doneTagsOfEveryKind();
        whatCounts();
        bytesAndTagsAtOnce();
        notReached();
        Check.end();
    }

    private static void all(Check.Maker maker, int fault, String... templates) {
        for (String template : templates) {
            Check.faults(maker, template, fault, 0, "");
        }
    }

    /** "1 a name that stands for nothing, a function, table or column that there is not". */
    private static void names() {
        all(SHOP, 1, "{x}", "{-x}", "{1+x}", "{(x)}", "{x:2}", "{x>5}", "{item}", "{min}", "{no}", "{if x}{end}",
                "{let a=x}", "{abs(x)}", "{min(1,x)}", "{eq(x,1)}", "{len(x)}");
        all(SHOP, 1, "{f(1)}", "{minn(1)}", "{mi(1)}", "{eac(1)}", "{item(1)}", "{no(1)}", "{sums(item,no)}", "{z(1)}",
                "{abcdefgh(1)}");
        all(SHOP, 1, "{each x}{end}", "{each price}{end}", "{each ite}{end}", "{each items}{end}", "{count(x)}",
                "{count(no)}", "{sum(x,no)}", "{sum(no,no)}");
        all(SHOP, 1, "{each item x=1}{end}", "{each item qty=1}{end}", "{each item item=1}{end}", "{sum(item,x)}",
                "{sum(item,qty)}", "{sum(tax,no)}");
        all(() -> Check.desk("t a b c d e f|1;2;3;4;5;6"), 1, "{each t g=1}{end}", "{sum(t,g)}", "{sum(t,t)}", "{a}");
        all(() -> Check.desk("ta a", "tb a", "tc a", "td a"), 1, "{each te}{end}", "{sum(te,a)}", "{count(te)}");
        Check.faults(SHOP, "{let no=1}{sum(item,x)}", 1, 10, "");
        Check.faults(SHOP, "{let x=1}{each x}{end}", 1, 9, "");
        Check.faults(SHOP, "{let x=1}{each item x=1}{end}", 1, 9, "");
        Check.faults(EMPTY, "{each item}{end}", 1, 0, "");
        Check.faults(EMPTY, "{count(item)}", 1, 0, "");
    }

    /** "or with another number of arguments": "all of these with just so many". */
    private static void argumentCounts() {
        String[] none = {"pct(1)", "pct(1,2,3)", "div(1)", "div(1,2,3)", "abs(1,2)", "len('a','b')", "eq(1)",
            "eq(1,2,3)", "lt(1)", "lt(1,2,3)", "sum(item)", "sum(item,no,no)", "count(item,item)", "pct(1,2,3,4,5)"};
        for (String call : none) {
            all(SHOP, 1, "{" + call + "}", "{1+" + call + "}", "{let a=" + call + "}", "{if " + call + "}{end}");
        }
        Check.prints(SHOP, "{pct(100,2)}{div(4,2)}{abs(1)}{len('a')}{eq(1,1)}{lt(1,2)}{sum(tax,rate)}{count(tax)}",
                "221111191");
        Check.prints(SHOP, "{min(4)}{min(4,3)}{min(4,3,2)}{max(4)}{max(4,5)}{max(4,5,6)}", "432456");
    }

    /** "or for T or C no name alone". */
    private static void namesAlone() {
        all(SHOP, 1, "{sum((item),no)}", "{sum(item,(no))}", "{sum('item',no)}", "{sum(item,'no')}", "{sum(1,no)}",
                "{sum(item,-no)}", "{sum(-item,no)}", "{sum(item,1)}", "{sum(item+1,no)}", "{sum(item,no*1)}",
                "{count((item))}", "{count('item')}", "{count(1)}", "{count(-item)}", "{count(abs(1))}",
                "{count(item+item)}", "{sum(abs(1),no)}", "{sum(item,abs(1))}", "{sum(item,'')}");
        // what is no name alone is not worked out
        all(SHOP, 1, "{count('a'+1)}", "{count(div(1,0))}", "{sum('a'+1,no)}", "{sum(item,div(1,0))}");
        Check.faults(SHOP, "{let a='item'}{count(a)}", 1, 14, "");
        Check.faults(SHOP, "{each item no=1}{sum(item,(no))}{end}", 1, 16, "");
        Check.prints(SHOP, "{sum(item,no)}{(count(item))}{-count(item)}", "63-3");
    }

    /** "2 a word where there must be a number, or the other way". */
    private static void kinds() {
        all(SHOP, 2, "{'a':1}", "{'':4}", "{'1':1}", "{'a':1>9}", "{'a'+1}", "{1+'a'}", "{'1'-1}", "{1-'1'}", "{'a'*1}",
                "{1*''}", "{-'a'}", "{-('1')}", "{--'a'}", "{1+2+'a'}", "{1*2*'a'}");
        all(SHOP, 2, "{pct('a',1)}", "{pct(1,'a')}", "{div('a',1)}", "{div(1,'a')}", "{min('a')}", "{min(1,'a')}",
                "{max('a')}", "{max(1,2,'a')}", "{abs('a')}", "{lt('a',1)}", "{lt(1,'a')}", "{lt('a','b')}");
        all(SHOP, 2, "{len(1)}", "{len(0)}", "{len(1+1)}", "{len(-1)}", "{len(len('a'))}", "{len(count(item))}");
        all(SHOP, 2, "{if 'a'+1}{end}", "{let a=-'b'}", "{each item no='a'*2}{end}");
        Check.faults(SHOP, "{each item}{no}{name+1}{end}", 2, 15, "1");
        Check.faults(SHOP, "{each item no=2}{len(no)}{end}", 2, 16, "");
        Check.prints(SHOP, "{('a')}{len(('a'))}{eq('a',1)}{if 'a'}b{end}{let a='w'}{a}", "a10bw");
    }

    /** "3 a number beyond 10^15 (also one that is printed nowhere)". */
    private static void ranges() {
        all(SHOP, 3, "{999999999999999+2}", "{-999999999999999-2}", "{999999999999999+2-5}", "{-999999999999999-2+5}",
                "{999999999999999-1+3}", "{999999999999999+1+1}", "{999999999999999-(-2)}", "{2+999999999999999}",
                "{let a=999999999999999+2}", "{if 999999999999999+2}{end}", "{each item no=999999999999999+2}{end}",
                "{eq(999999999999999+2,1)}", "{eq(1,999999999999999+2)}", "{min(1,999999999999999*2)}",
                "{(999999999999999+2)*0}", "{0*(999999999999999+2)}", "{abs(-999999999999999-2)}",
                "{div(999999999999999+2,1)}", "{lt(999999999999999+2,1)}", "{999999999999999+999999999999999}",
                "{-(999999999999999+2)}", "{1-1*(999999999999999+2)}");
        Check.prints(EMPTY, "{999999999999999+1}{999999999999999+1-1}", MOST + "999999999999999");
        Check.prints(EMPTY, "{-999999999999999-1}{-999999999999999-1+1}", "-" + MOST + "-999999999999999");
        Check.prints(EMPTY, "{-(999999999999999+1)}{--(999999999999999+1)}", "-" + MOST + MOST);
        Check.faults(SHOP, "ok{let a=1}{a}{a*999999999999999+2}", 3, 14, "ok1");
    }

    /** "a number beyond 10^15": of products the first one beyond, and those that no long holds. */
    private static void rangesOfProducts() {
        all(EMPTY, 3, "{100000000*10000001}", "{-100000000*10000001}", "{100000000*-10000001}", "{31622777*31622777}",
                "{999999999999999*2}", "{2*999999999999999}", "{999999999999999*999999999999999}",
                "{999999999999999*-999999999999999}", "{4294967296*4294967296}", "{(999999999999999+1)*2}",
                "{-2*(999999999999999+1)}", "{999999999999999*2*0}");
        // 10^15 + 1 = 1001 * 999000999001, the first number beyond
        all(EMPTY, 3, "{1001*999000999001}", "{-1001*999000999001}", "{999000999001*1001}", "{-999000999001*-1001}");
        Check.prints(EMPTY, "{100000000*10000000}{-100000000*-10000000}", MOST + MOST);
        Check.prints(EMPTY, "{100000000*-10000000}{-100000000*10000000}", "-" + MOST + "-" + MOST);
        Check.prints(EMPTY, "{(999999999999999+1)*1}{(999999999999999+1)*-1}{(999999999999999+1)*0}",
                MOST + "-" + MOST + "0");
    }

    /** "a product in pct beyond 10^17". */
    private static void rangesOfFunctions() {
        all(EMPTY, 3, "{pct(999999999999999+1,101)}", "{pct(100000000000001,1000)}", "{pct(-999999999999999-1,101)}",
                "{pct(101,999999999999999+1)}", "{pct(999999999999999,999999999999999)}",
                "{pct(999999999999999+1,-999999999999999-1)}", "{let a=pct(999999999999999,1000)}");
        // 10^17 + 1 = 1133 * 88261253309797, the first product beyond
        all(EMPTY, 3, "{pct(88261253309797,1133)}", "{pct(-1133,88261253309797)}", "{pct(88261253309797,-1133)}",
                "{pct(-88261253309797,-1133)}");
        Check.prints(EMPTY, "{pct(999999999999999+1,100)}{pct(100,-999999999999999-1)}", MOST + "-" + MOST);
        Check.prints(EMPTY, "{pct(999999999999999,100)}{pct(10000000000000,10000)}", "999999999999999" + MOST);
    }

    /** "of a sum the whole sum": not what it has been on the way. */
    private static void rangesOfSums() {
        String most = "|999999999999999";
        String least = "|-999999999999999";
        String[] beyond = {most + "|2", least + "|-2", "|2" + most, most + most, least + least, most.repeat(16),
            least.repeat(16), most + most + "|-999999999999997", least + least + "|999999999999997"};
        for (String records : beyond) {
            Check.faults(() -> Check.desk("t a" + records), "{sum(t,a)}", 3, 0, "");
            Check.faults(() -> Check.desk("t a" + records), "y{if 0*sum(t,a)}{end}", 3, 1, "y");
        }
        Check.prints(() -> Check.desk("t a" + most + "|1"), "{sum(t,a)}", MOST);
        Check.prints(() -> Check.desk("t a" + least + "|-1"), "{sum(t,a)}", "-" + MOST);
        Check.prints(() -> Check.desk("t a" + most + most + "|-999999999999998"), "{sum(t,a)}", MOST);
        Check.prints(() -> Check.desk("t a" + least + least + "|999999999999998"), "{sum(t,a)}", "-" + MOST);
    }

    /** "or div by 0". */
    private static void zeroDivisors() {
        all(EMPTY, 3, "{div(1,0)}", "{div(0,0)}", "{div(-1,-0)}", "{div(5,1-1)}", "{0*div(1,0)}");
        Check.prints(EMPTY, "{div(1,1)}{div(1,-1)}{div(0,1)}{div(0,-1)}", "1-100");
    }

    /** "FAULTS end it, the first one counts". */
    private static void theFirstOneCounts() {
        Check.faults(SHOP, "{x}{'a':1}{div(1,0)}", 1, 0, "");
        Check.faults(SHOP, "a{'a':1}b{x}", 2, 1, "a");
        Check.faults(SHOP, "a{let a=div(1,0)}b{x}", 3, 1, "a");
        Check.faults(SHOP, "{each line}{qty},{if eq(qty,1)}{x}{end}{end}{'a':1}", 1, 31, "3,10,1,");
        MergeDesk desk = new MergeDesk();
        Check.faults(desk, "{let a=1}{let b=x}{let c=3}z", 1, 9, "");
        Check.due("set before it", 1, Check.variable(desk, "a"));
        Check.due("not in it", Check.ELEMENT, Check.variable(desk, "b"));
        Check.due("not behind it", Check.ELEMENT, Check.variable(desk, "c"));
        Check.due("so one is set", 1, desk.about(4));
        Check.prints(desk, "y", "y");
    }

    /** "A function's name and how many arguments it has are looked at first". */
    private static void functionsBeforeArguments() {
        all(SHOP, 1, "{f(999999999999999*2)}", "{f('a'+1)}", "{f(div(1,0))}", "{pct('a'+1)}", "{pct(div(1,0))}",
                "{pct('a','b','c')}", "{abs('a',1)}", "{abs(div(1,0),1)}", "{len(1,2)}", "{lt('a')}", "{eq('a'+1)}",
                "{count('a'+1,1)}", "{sum(div(1,0))}", "{sum(item,no,div(1,0))}");
        all(SHOP, 2, "{min('a',f(1))}", "{1+'a'+f(1)}");
        all(SHOP, 3, "{min(div(1,0),f(1))}");
        all(SHOP, 1, "{min(f(1),'a')}", "{abs(f('a'+1))}");
    }

    /** "then its arguments from the left to the right, each worked out and looked at". */
    private static void argumentsFromTheLeft() {
        String[] two = {"pct", "div", "min", "max", "lt"};
        for (String name : two) {
            all(SHOP, 1, "{" + name + "(x,'a')}", "{" + name + "(x,div(1,0))}", "{" + name + "(1,x)}");
            all(SHOP, 2, "{" + name + "('a',x)}", "{" + name + "('a',div(1,0))}", "{" + name + "(1,'a')}",
                    "{" + name + "('a',0)}", "{" + name + "(-'a',x)}");
            all(SHOP, 3, "{" + name + "(div(1,0),x)}", "{" + name + "(div(1,0),'a')}", "{" + name + "(1,div(1,0))}");
        }
        all(SHOP, 1, "{eq(x,'a'+1)}", "{eq(x,div(1,0))}", "{eq('a',x)}", "{eq(1,x)}", "{len(x)}", "{abs(x)}");
        all(SHOP, 2, "{eq('a'+1,x)}", "{eq('a'+1,div(1,0))}", "{min(1,'a',x)}", "{max(1,2,'a',div(1,0))}");
        all(SHOP, 3, "{eq(div(1,0),x)}", "{min(1,div(1,0),'a')}", "{len(div(1,0))}", "{abs(div(1,0))}");
        all(SHOP, 1, "{min(1,x,'a')}", "{min(1,2,3,4,5,x)}");
        all(SHOP, 1, "{sum(x,'a'+1)}", "{sum(x,(no))}", "{sum((item),x)}");
        all(SHOP, 3, "{pct(999999999999999,1000)+x}", "{div(1,0)+x}");
    }

    /** "in x op y likewise first x, then y". */
    private static void operandsFromTheLeft() {
        String[] signs = {"+", "-", "*"};
        for (String sign : signs) {
            all(SHOP, 1, "{x" + sign + "'a'}", "{x" + sign + "div(1,0)}", "{1" + sign + "x}");
            all(SHOP, 2, "{'a'" + sign + "x}", "{'a'" + sign + "div(1,0)}", "{1" + sign + "'a'}");
            all(SHOP, 3, "{div(1,0)" + sign + "x}", "{div(1,0)" + sign + "'a'}", "{1" + sign + "div(1,0)}");
        }
        all(SHOP, 1, "{1+x*(999999999999999*2)}", "{x+'a'*2}");
        all(SHOP, 2, "{1+'a'*x}", "{1*2+'a'+x}", "{'a'+x*2}");
        all(SHOP, 3, "{999999999999999*2+x}", "{999999999999999+2+x}", "{999999999999999*2+'a'}",
                "{1+999999999999999*2*x}");
    }

    /** "an {each}'s table first, then its column, then the value". */
    private static void tableThenColumnThenValue() {
        all(SHOP, 1, "{each x no='a'+1}{end}", "{each x x=div(1,0)}{end}", "{each item x='a'+1}{end}",
                "{each item x=div(1,0)}{end}", "{each item no=x}{end}");
        all(SHOP, 2, "{each item no='a'+1}{x}{end}");
        all(SHOP, 3, "{each item no=div(1,0)}{x}{end}");
        Check.faults(SHOP, "{each item no=5}{x}{end}{'a':1}", 2, 24, "");
        Check.faults(() -> Check.desk("t a"), "{each t b=1}{end}", 1, 0, "");
        Check.faults(() -> Check.desk("t a"), "{each t a=x}{end}", 1, 0, "");
        Check.prints(() -> Check.desk("t a"), "{each t a=1}{x}{end}", "");
    }

    /** "4 more than 4000 bytes (the first 4000 come out)": at the byte "that was too many". */
    private static void outputOfBytes() {
        String ten = "0123456789".repeat(10);
        String most = ten.repeat(40);
        Check.prints(TEN, "{each t}" + ten.repeat(4) + "{end}", most);
        Check.prints(TEN, "{each t}" + ten.repeat(4) + "{end}{let a=1}{''}{if 1}{end}", most);
        Check.faults(TEN, "{each t}" + ten.repeat(4) + "{end}x", 4, 413, most);
        Check.faults(TEN, "{each t}" + ten.repeat(4) + "{end}{{x", 4, 413, most);
        Check.faults(TEN, "{each t}" + ten.repeat(4) + "{end}{''}x", 4, 417, most);
        Check.faults(TEN, "{each t}" + ten.repeat(4) + "{end}{1}", 4, 413, most);
        Check.faults(TEN, "{each t}" + ten.repeat(4) + "{end}{''>1}", 4, 413, most);
        Check.faults(TEN, "y{each t}" + ten.repeat(4) + "{end}x", 4, 408, ("y" + most).substring(0, 4000));
        Check.faults(TEN, "{each t}" + ten.repeat(4) + "ab{end}", 4, 8 + 382,
                (ten.repeat(4) + "ab").repeat(10).substring(0, 4000));
    }

    /** "(the first 4000 come out)": within what a tag prints, at the { of that tag. */
    private static void outputOfTags() {
        String filled = "{each t}" + "x".repeat(399) + "{end}";
        String most = "x".repeat(3990);
        Check.prints(TEN, filled + "{12345>10}", most + "     12345");
        Check.faults(TEN, filled + "{12345>11}", 4, 412, most + "      1234");
        Check.faults(TEN, filled + "{12345<11}", 4, 412, most + "12345     ");
        Check.faults(TEN, filled + "{12345>16}", 4, 412, most + "          ");
        Check.faults(TEN, filled + "{-12345678:4}{x}", 1, 425, most + "-1234.5678");
        Check.faults(TEN, filled + "{-123456789:4}{x}", 4, 412, most + "-12345.678");
        Check.faults(TEN, filled + "{'abcdefghijkl'}", 4, 412, most + "abcdefghij");
        Check.faults(TEN, filled + "0123456789{let a=1}{x}", 1, 431, most + "0123456789");
        Check.faults(TEN, filled + "{'abcdefghijkl':1}", 2, 412, most);
        Check.faults(TEN, filled + "{each t}{1}{end}{2}", 4, 428, most + "1111111111");
        Check.faults(TEN, filled + "{each t}{1}{end}{if 1}{{{end}", 4, 434, most + "1111111111");
    }

    /** With ten bytes left: nine, ten and eleven of each sort. */
    private static void outputByPieces() {
        String filled = "{each t}" + "x".repeat(399) + "{end}";
        String most = "x".repeat(3990);
        for (int count = 9; count <= 11; count++) {
            String word = "abcdefghijk".substring(0, count);
            String digits = "12345678901".substring(0, count);
            String money = digits.substring(0, count - 3) + "." + digits.substring(count - 3, count - 1);
            bytesThen(filled + word, count, 10, most + word);
            bytesThen(filled + "{{".repeat(count), count, 20, most + "{".repeat(count));
            bytesThen(filled + "{'" + word + "'}", count, 0, most + word);
            bytesThen(filled + "{" + digits + "}", count, 0, most + digits);
            bytesThen(filled + "{-" + digits.substring(1) + "}", count, 0, most + "-" + digits.substring(1));
            bytesThen(filled + "{" + digits.substring(0, count - 1) + ":2}", count, 0, most + money);
            bytesThen(filled + "{''>" + count + "}", count, 0, most + " ".repeat(count));
            bytesThen(filled + "{''<" + count + "}", count, 0, most + " ".repeat(count));
            bytesThen(filled + "{7>" + count + "}", count, 0, most + " ".repeat(count - 1) + "7");
            bytesThen(filled + "{7<" + count + "}", count, 0, most + "7" + " ".repeat(count - 1));
        }
    }

    private static void bytesThen(String template, int count, int offset, String whole) {
        if (count <= 10) {
            Check.prints(TEN, template, whole);
        } else {
            Check.faults(TEN, template, 4, 412 + offset, whole.substring(0, 4000));
        }
    }

    /** What does not print goes on when 4000 bytes are out; out answers the first and the last of them. */
    private static void outputThatIsFull() {
        MergeDesk desk = TEN.make();
        Check.due("compile", 0, Check.compile(desk, "{each t}" + "x".repeat(399) + "y{end}{let a=1}{''}{each t}{end}"));
        Check.due("merge", 4000, Check.merge(desk));
        Check.due("size", 4000, desk.size());
        Check.due("the first", "120", Check.answer(() -> desk.out(0)));
        Check.due("one before the last", "120", Check.answer(() -> desk.out(3998)));
        Check.due("the last", "121", Check.answer(() -> desk.out(3999)));
        Check.due("none behind it", Check.INDEX, Check.answer(() -> desk.out(4000)));
        Check.due("none before it", Check.INDEX, Check.answer(() -> desk.out(-1)));
        Check.due("the let behind it", 1, Check.variable(desk, "a"));
        Check.due("tags", 4, desk.about(3));
    }

    /** 6 + 1 + 16 * (1 + 16 * 11 + 10) = 2999 tags that print nothing. */
    private static final String DONE_2999 = "{let z=0}".repeat(6) + "{each t}{each t}" + "{''}".repeat(11) + "{end}"
            + "{''}".repeat(10) + "{end}";

    /** "5 a 3001st tag is to be done, before anything of it". */
    private static void doneTags() {
        MergeDesk desk = SIXTEEN.make();
        Check.prints(desk, DONE_2999, "");
        Check.due("2999", 2999, desk.about(3));
        Check.prints(desk, DONE_2999 + "{1}", "1");
        Check.due("3000", 3000, desk.about(3));
        Check.faults(desk, DONE_2999 + "{1}{2}", 5, DONE_2999.length() + 3, "1");
        Check.due("3000 were done", 3000, desk.about(3));
        Check.faults(desk, DONE_2999 + "{1}x{2}y", 5, DONE_2999.length() + 4, "1x");
        MergeDesk another = SIXTEEN.make();
        Check.prints(another, DONE_2999 + "{let b=1}x{{", "x{");
        Check.due("set", 2, another.about(4));
        Check.faults(another, DONE_2999 + "{1}{let b=1}", 5, DONE_2999.length() + 3, "1");
        Check.due("not set any more", 1, another.about(4));
        Check.faults(SIXTEEN, "{each t}{each t}{each t}{''}{end}{end}{end}", 5, 24, "");
        Check.faults(SIXTEEN, "{each t}".repeat(6) + "{end}".repeat(6), 5, 40, "");
    }

    /** "a 3001st tag is to be done, before anything of it": whatever tag it is, and whatever is wrong in it. */
    private static void doneTagsOfEveryKind() {
        String[] fine = {"{''}", "{let b=1}", "{if 1}{end}", "{if 0}{1}{else}{end}", "{each t a=99}{x}{end}"};
        String[] faulty = {"{x}", "{let b='a'+1}", "{if div(1,0)}{end}", "{each nope}{end}", "{each t nope=1}{end}"};
        int[] faults = {1, 2, 3, 1, 1};
        int place = DONE_2999.length();
        for (String one : fine) {
            Check.prints(SIXTEEN, DONE_2999 + one + "ok", "ok");
            Check.faults(SIXTEEN, DONE_2999 + "{''}" + one + "ok", 5, place + 4, "");
            for (String other : faulty) {
                Check.faults(SIXTEEN, DONE_2999 + one + other, 5, place + one.length(), "");
            }
        }
        for (int i = 0; i < faulty.length; i++) {
            Check.faults(SIXTEEN, DONE_2999 + faulty[i], faults[i], place, "");
        }
        Check.faults(SIXTEEN, DONE_2999 + "{if 1}{1}{end}", 5, place + 6, "");
        Check.faults(SIXTEEN, DONE_2999 + "{if 0}{else}{1}{end}", 5, place + 12, "");
        Check.faults(SIXTEEN, DONE_2999 + "{each t}y{1}{end}", 5, place + 9, "y");
    }

    /** "(each time counts; a loop's begin once, an end and an else never)". */
    private static void whatCounts() {
        tagsDone(0, "xyz{{", 4);
        tagsDone(1, "{each t}{end}", 0);
        tagsDone(1, "{each t}.{end}", 16);
        tagsDone(17, "{each t}{1}{end}", 16);
        tagsDone(17, "{each t}{each t a=99}{end}{end}", 0);
        tagsDone(17, "{each t}{if a}{else}y{end}{end}", 1);
        tagsDone(273, "{each t}{each t}{each t}{end}{end}{end}", 0);
        tagsDone(2, "{if 0}{1}{2}{else}{3}{end}", 1);
        tagsDone(3, "{if 1}{1}{2}{else}{3}{end}", 2);
        tagsDone(1, "{if 0}{1}{2}{end}", 0);
        tagsDone(1, "{each t a=99}{1}{end}", 0);
        tagsDone(2, "{each t a=9}{1}{end}", 1);
        tagsDone(3, "{let a=1}{let a=2}{a}", 1);
        MergeDesk desk = SIXTEEN.make();
        Check.due("compile", 0, Check.compile(desk, "{each t}{each t}{each t}.{end}{end}{end}"));
        Check.due("more than 4000", "-40024", Check.merge(desk));
        Check.due("begins alone", 1 + 16 + 251, desk.about(3));
    }

    private static void tagsDone(int tags, String template, int bytes) {
        MergeDesk desk = SIXTEEN.make();
        Check.due("compile " + template, 0, Check.compile(desk, template));
        Check.due("merge " + template, bytes, Check.merge(desk));
        Check.due("tags done of " + template, tags, desk.about(3));
    }

    /** 4000 bytes and 3000 tags: a tag is too many before its bytes are. */
    private static void bytesAndTagsAtOnce() {
        String both = "{let z=0}".repeat(7) + "{each t}{each t}" + "{z}".repeat(11) + "{end}" + "y".repeat(74)
                + "{''}".repeat(10) + "{end}";
        String out = ("0".repeat(16 * 11) + "y".repeat(74)).repeat(16);
        Check.prints(SIXTEEN, both, out);
        Check.faults(SIXTEEN, both + "{1}", 5, both.length(), out);
        Check.faults(SIXTEEN, both + "x{1}", 4, both.length(), out);
        Check.faults(SIXTEEN, both + "{{{1}", 4, both.length(), out);
        Check.faults(SIXTEEN, both + "{''}", 5, both.length(), out);
    }

    /** What is not merged has no faults. */
    private static void notReached() {
        Check.prints(SHOP, "{if 0}{x}{f(1)}{each y}{end}{'a':1}{div(1,0)}{999999999999999+2}{end}", "");
        Check.prints(SHOP, "{if 1}{else}{x}{end}{each item no=99}{x}{end}", "");
    }
}
