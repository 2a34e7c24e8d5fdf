/** Promise 7 in full: which templates are refused, and the place that is told of each. */
public final class CompileTests {
    private static final String DIGITS = "0123456789";
    private static final String LETTERS = "abcdefghijklmnopqrstuvwxyz";
    /** What a factor may begin with; what may stand behind one; and behind an EXPR alone. */
    private static final String FACTOR = DIGITS + LETTERS + "'(-";
    private static final String BEHIND = "+-*";
    private static final String ALONE = BEHIND + ":><}";

    public static void main(String[] args) {
        plainBytes();
        tagWords();
        ends();
        eachTags();
        ifAndLetTags();
        printTags();
        names();
        factors();
        quotes();
        depth();
        functions();
        openBlocks();
        tagLimit();
        sizeLimit();
        everyByteOfTags();
        everyByteOfWidths();
        everyByteOfExprs();
        everyByteAtLimits();
        theEndInTags();
        theEndInBlocks();
        wrongBeforeTheEnd();
        wrongBehindTheEnd();
        depthAtEverySite();
        depthOfEveryKind();
        openOfEveryKind();
        tagsOfEveryKind();
        digitsAndQuotesByLength();
        firstPlaceCounts();
        Check.end();
    }

    /** "A byte that is not { stands for itself; {{ stands for one {; all else that begins with { is a TAG". */
    private static void plainBytes() {
        Check.accepts("", 0);
        Check.accepts("abc } }} ' ; \u0000\u00ff", 0);
        Check.accepts("{{", 0);
        Check.accepts("{{{{}", 0);
        Check.accepts("{{{a}", 1);
        Check.accepts("{a}}", 1);
        Check.refuses("{", 1);
        Check.refuses("{{{", 3);
        Check.refuses("ab{", 3);
        Check.refuses("{}", 1);
        Check.refuses("{ a}", 1);
    }

    /** "letters .. that stand there are read as far as they go; are they one of the five words, it is that tag". */
    private static void tagWords() {
        Check.refuses("{each", 5);
        Check.refuses("{each}", 5);
        Check.refuses("{each(1)}", 5);
        Check.refuses("{if", 3);
        Check.refuses("{if(1)}", 3);
        Check.refuses("{let", 4);
        Check.refuses("{let=1}", 4);
        Check.refuses("{end", 4);
        Check.refuses("{end(1)}", 4);
        Check.refuses("{else+1}", 5);
        Check.accepts("{eachs}{ends}{ifs}{elses}{lets}{en}{i}", 7);
        Check.refuses("{eachs a}", 6);
        Check.refuses("{EACH a}", 1);
    }

    /** "Behind end and else: } (else that place), and at the {: none is open that it belongs to (a second else, too)." */
    private static void ends() {
        Check.refuses("{end}", 0);
        Check.refuses("a{else}", 1);
        Check.refuses("{end }", 4);
        Check.refuses("{else }", 5);
        Check.refuses("{if 1}{end}{end}", 11);
        Check.refuses("{if 1}{else}{else}{end}", 12);
        Check.refuses("{if 1}{else}{else }", 17);
        Check.refuses("{each a}{else}{end}", 8);
        Check.refuses("{if 1}{each a}{else}{end}{end}", 14);
        Check.accepts("{each a}{if 1}{else}{end}{end}", 5);
        Check.accepts("{if 1}{else}{if 2}{else}{end}{end}", 6);
        Check.accepts("{if 1}{if 2}{else}{end}{else}{end}", 6);
        Check.refuses("{if 1}{if 2}{else}{end}{else}{end}{else}", 34);
        Check.accepts("{if 1}{else}{end}{if 1}{else}{end}", 6);
    }

    /** "Behind each: a space. Then: a name, and } or a space, a name, =, an EXPR, }". */
    private static void eachTags() {
        Check.accepts("{each a}{end}", 2);
        Check.accepts("{each a b=1}{end}", 2);
        Check.accepts("{each a b=c+'x'*(1)}{end}", 2);
        Check.refuses("{each  a}", 6);
        Check.refuses("{each }", 6);
        Check.refuses("{each a", 7);
        Check.refuses("{each a }", 8);
        Check.refuses("{each a  b=1}", 8);
        Check.refuses("{each a=1}", 7);
        Check.refuses("{each a b}", 9);
        Check.refuses("{each a b =1}", 9);
        Check.refuses("{each a b= 1}", 10);
        Check.refuses("{each a b=}", 10);
        Check.refuses("{each a b=1 }", 11);
        Check.refuses("{each a b=1:2}", 11);
        Check.refuses("{each a b=1>2}", 11);
        Check.refuses("{each 'a'}", 6);
        Check.refuses("{each let}{end}", 6);
        Check.refuses("{each a if=1}{end}", 8);
        Check.refuses("{each abcdefghi}", 6);
        Check.refuses("{each a abcdefghi=1}", 8);
        Check.refuses("{each a}", 8);
    }

    /** "Behind if, let: a space. Then: an EXPR and }; a name, =, an EXPR and }". */
    private static void ifAndLetTags() {
        Check.accepts("{if 1}{end}", 2);
        Check.accepts("{let a=1}", 1);
        Check.refuses("{if  1}", 4);
        Check.refuses("{if }", 4);
        Check.refuses("{if 1", 5);
        Check.refuses("{if 1 }", 5);
        Check.refuses("{if 1:2}", 5);
        Check.refuses("{if 1<2}", 5);
        Check.refuses("{if 1=1}", 5);
        Check.refuses("{let  a=1}", 5);
        Check.refuses("{let a =1}", 6);
        Check.refuses("{let a= 1}", 7);
        Check.refuses("{let a}", 6);
        Check.refuses("{let 1=1}", 5);
        Check.refuses("{let a=}", 7);
        Check.refuses("{let a=1:2}", 8);
        Check.refuses("{let a=1>5}", 8);
        Check.refuses("{let a=1", 8);
        Check.refuses("{let end=1}", 5);
        Check.refuses("{let abcdefghi=1}", 5);
        Check.refuses("{let a(1)=1}", 6);
    }

    /** "Behind an EXPR alone: perhaps a : and P; perhaps > or < and W: a digit 1 to 9, and perhaps another digit; and }". */
    private static void printTags() {
        Check.accepts("{1:1}{1:4}{1>1}{1<9}{1>10}{1<20}{1:2>8}{1:3<19}", 8);
        Check.refuses("{1:}", 3);
        Check.refuses("{1:0}", 3);
        Check.refuses("{1:5}", 3);
        Check.refuses("{1:a}", 3);
        Check.refuses("{1:22}", 4);
        Check.refuses("{1:2:2}", 4);
        Check.refuses("{1:", 3);
        Check.refuses("{1:2", 4);
        Check.refuses("{1>}", 3);
        Check.refuses("{1>0}", 3);
        Check.refuses("{1>05}", 3);
        Check.refuses("{1<a}", 3);
        Check.refuses("{1>21}", 4);
        Check.refuses("{1<99}", 4);
        Check.refuses("{1>200}", 5);
        Check.refuses("{1>2<3}", 4);
        Check.refuses("{1>2:3}", 4);
        Check.refuses("{1>", 3);
        Check.refuses("{1>2", 4);
        Check.refuses("{1>20", 5);
        Check.refuses("{1 }", 2);
        Check.refuses("{1=1}", 2);
        Check.refuses("{a b}", 2);
        Check.refuses("{a{b}}", 2);
    }

    /** "A NAME: letters as far as they go: at the first place, if there are none, more than 8, or one of the five words." */
    private static void names() {
        Check.accepts("{abcdefgh}{a}{z}", 3);
        Check.refuses("{abcdefghi}", 1);
        Check.refuses("{1+abcdefghi", 3);
        Check.refuses("{a1}", 2);
        Check.refuses("{aB}", 2);
        Check.refuses("{A}", 1);
        Check.refuses("{`}", 1);
        Check.refuses("{1+each}", 3);
        Check.refuses("{(if)}", 2);
        Check.refuses("{-let}", 2);
        Check.refuses("{f(else)}", 3);
        Check.refuses("{1*end(1)}", 3);
        Check.accepts("{1+eachs}", 1);
    }

    /** "A factor: digits as far as they go (at the first: more than 15); ..; anything else: at that place." */
    private static void factors() {
        Check.accepts("{123456789012345}{000000000000000}", 2);
        Check.refuses("{1234567890123456}", 1);
        Check.refuses("{1234567890123456", 1);
        Check.refuses("{1+0000000000000001}", 3);
        Check.accepts("{1+2-3*4*-5+-6-(7)}", 1);
        Check.refuses("{+1}", 1);
        Check.refuses("{*1}", 1);
        Check.refuses("{1+}", 3);
        Check.refuses("{1*}", 3);
        Check.refuses("{1-}", 3);
        Check.refuses("{1++2}", 3);
        Check.refuses("{1 + 2}", 2);
        Check.refuses("{1+ 2}", 3);
        Check.refuses("{1/2}", 2);
        Check.refuses("{1.5}", 2);
        Check.refuses("{1a}", 2);
        Check.refuses("{a'b'}", 2);
        Check.refuses("{()}", 2);
        Check.refuses("{(1}", 3);
        Check.refuses("{(1", 3);
        Check.refuses("{(1,2)}", 3);
        Check.refuses("{1)}", 2);
        Check.refuses("{-}", 2);
        Check.refuses("{-", 2);
        Check.refuses("{1(2)}", 2);
        Check.refuses("{\u00e9}", 1);
        Check.accepts("{1" + "+1".repeat(240) + "}", 1);
        Check.accepts("{1" + "*1".repeat(240) + "}", 1);
    }

    /** "a quote: at it, if before the next quote there are more than 12 bytes or one that no word has". */
    private static void quotes() {
        Check.accepts("{''}{'abcdefghijkl'}{' !\"#$%&()*+,'}{'./:<=>?@[{|~'}", 4);
        Check.refuses("{'abcdefghijklm'}", 1);
        Check.refuses("{'abcdefghijklm", 1);
        Check.refuses("{'abcdefghijkl", 14);
        Check.refuses("{'", 2);
        Check.refuses("{'abc", 5);
        Check.refuses("{'abc}", 1);
        Check.refuses("{1+'a;b'}", 3);
        Check.refuses("{'a}b'}", 1);
        Check.refuses("{'a\u001f'}", 1);
        Check.refuses("{'a\u007f'}", 1);
        Check.refuses("{'\u0080'}", 1);
        Check.refuses("{'abcdefghijkl;'}", 1);
        Check.refuses("{'a''b'}", 4);
        Check.refuses("{'abcdefghijkl'm'}", 15);
    }

    /** "At a ( or -: what it would make nine deep." */
    private static void depth() {
        Check.accepts("{(((((((1)))))))}", 1);
        Check.refuses("{((((((((1))))))))}", 8);
        Check.refuses("{((((((((", 8);
        Check.accepts("{-------1}", 1);
        Check.refuses("{--------1}", 8);
        Check.accepts("{-(-(-(-1)))}", 1);
        Check.refuses("{-(-(-(-(1))))}", 8);
        Check.refuses("{(-(-(-(-1))))}", 8);
        Check.accepts("{f(f(f(f(f(f(f(1)))))))}", 1);
        Check.refuses("{f(f(f(f(f(f(f(f(1))))))))}", 16);
        Check.accepts("{f(f(f(f(f(f(f(a-1-b*2)))))))}", 1);
        Check.accepts("{(((((((1))))))-1-1-1-1-1-1-1-1-1)}", 1);
        Check.refuses("{(((((((a-1-(2))))))))}", 12);
        Check.refuses("{1+--------1}", 10);
        Check.accepts("{-------1*-------1--------1}", 1);
        Check.accepts("{let a=-------1}", 1);
        Check.refuses("{let a=--------1}", 14);
        Check.accepts("{if -------1}{end}", 2);
        Check.refuses("{if --------1}{end}", 11);
        Check.accepts("{each a b=-------1}{end}", 2);
        Check.refuses("{each a b=--------1}{end}", 17);
        Check.accepts("{f(1,------1)}", 1);
        Check.refuses("{f(1,-------1)}", 11);
        Check.accepts("{f(1,f(1,f(1,f(1,f(1,f(1,f(1,2)))))))}", 1);
        Check.refuses("{f(1,f(1,f(1,f(1,f(1,f(1,f(1,(2))))))))}", 29);
    }

    /** "Behind an argument: a , or ); behind an EXPR in ( ): a )." */
    private static void functions() {
        Check.accepts("{f(1)}{g(a,b,'c')}{nofunc(1,(2),-3)}", 3);
        Check.refuses("{f()}", 3);
        Check.refuses("{f(}", 3);
        Check.refuses("{f(", 3);
        Check.refuses("{f(1", 4);
        Check.refuses("{f(1}", 4);
        Check.refuses("{f(1 )}", 4);
        Check.refuses("{f(1,)}", 5);
        Check.refuses("{f(1, 2)}", 5);
        Check.refuses("{f(,1)}", 3);
        Check.refuses("{f (1)}", 2);
        Check.refuses("{f(1)(2)}", 5);
        Check.refuses("{f(1;2)}", 4);
        Check.refuses("{abcdefghi(1)}", 1);
        Check.accepts("{f(1" + ",1".repeat(200) + ")}", 1);
    }

    /** "At the END: a block that is open", and "at the { of each and if: six are open". */
    private static void openBlocks() {
        Check.refuses("{if 1}", 6);
        Check.refuses("{if 1}{else}", 12);
        Check.refuses("{each a}abc", 11);
        Check.refuses("{if 1}{end", 10);
        Check.accepts("{if 1}".repeat(6) + "{end}".repeat(6), 12);
        Check.accepts("{each a}{if 1}".repeat(3) + "{end}".repeat(6), 12);
        Check.refuses("{if 1}".repeat(7) + "{end}".repeat(7), 36);
        Check.refuses("{if 1}".repeat(6) + "{each a}", 36);
        Check.refuses("{if 1}".repeat(6) + "{if}", 39);
        Check.refuses("{if 1}".repeat(6) + "{if }", 36);
        Check.refuses("{if 1}".repeat(6) + "{each !", 36);
        Check.accepts("{if 1}".repeat(5) + "{else}{if 1}{else}{end}" + "{end}".repeat(5), 14);
        Check.accepts("{if 1}{end}".repeat(20), 40);
        Check.accepts("{if 1}".repeat(6) + "{let a=1}" + "{end}".repeat(6), 13);
    }

    /** "At the { of a tag: 120 tags are read already." */
    private static void tagLimit() {
        Check.accepts("{a}".repeat(120), 120);
        Check.accepts("{a}".repeat(120) + "{{x", 120);
        Check.refuses("{a}".repeat(121), 360);
        Check.refuses("{a}".repeat(120) + "{", 360);
        Check.refuses("{a}".repeat(120) + "{}", 360);
        Check.refuses("{a}".repeat(120) + "{end x}", 360);
        Check.refuses("{if 1}" + "{a}".repeat(119) + "{end}", 363);
        Check.accepts("{if 1}" + "{a}".repeat(118) + "{end}", 120);
        Check.accepts("{if 1}{else}" + "{a}".repeat(117) + "{end}", 120);
    }

    /** "up to the size, or 500 if that is less", and "At the END: .. if the size is above 500". */
    private static void sizeLimit() {
        Check.accepts("x".repeat(500), 0);
        Check.refuses("x".repeat(501), 500);
        Check.refuses("x".repeat(600), 500);
        Check.refuses("x".repeat(10) + "{" + "x".repeat(500), 11);
        Check.accepts("x".repeat(497) + "{a}", 1);
        Check.refuses("x".repeat(498) + "{a}", 500);
        Check.refuses("x".repeat(497) + "{a}x", 500);
        Check.refuses("x".repeat(499) + "{{", 500);
        Check.accepts("x".repeat(498) + "{{", 0);
        Check.refuses("{if 1}" + "x".repeat(494), 500);
        Check.refuses("x".repeat(490) + "{end}" + "x".repeat(20), 490);
        Check.refuses("x".repeat(495) + "{'abcdefgh'}", 500);
        Check.refuses("x".repeat(487) + "{'abcdefghijk;'}", 500);
        Check.refuses("x".repeat(490) + "{abcdefghi}", 491);
        Check.refuses("x".repeat(490) + "{abcdefghijkl}", 491);
        Check.refuses("x".repeat(491) + "{abcdefghijkl}", 500);
    }

    /** "Each of these, if it is not there, at that place": all bytes behind what has been read so far. */
    private static void everyByteOfTags() {
        at("", allBut(""));
        at("{", FACTOR + "{");
        at("{{", allBut(""));
        at("{if 1}{end", LETTERS + "}");
        at("{if 1}{else", LETTERS + "}");
        at("{if 1}{else}{end", LETTERS + "}");
        at("{each", LETTERS + " ");
        at("{if", LETTERS + " ");
        at("{let", LETTERS + " ");
        at("{each ", LETTERS);
        at("{each t", LETTERS + " }");
        at("{each t ", LETTERS);
        at("{each t c", LETTERS + "=");
        at("{each t c=", FACTOR);
        at("{each t c=1", DIGITS + BEHIND + "}");
        at("{each t c=x", LETTERS + BEHIND + "(}");
        at("{if ", FACTOR);
        at("{if 1", DIGITS + BEHIND + "}");
        at("{if x", LETTERS + BEHIND + "(}");
        at("{let ", LETTERS);
        at("{let n", LETTERS + "=");
        at("{let n=", FACTOR);
        at("{let n=1", DIGITS + BEHIND + "}");
        at("{let n='w'", BEHIND + "}");
    }

    /** "perhaps a : and P; perhaps > or < and W: a digit 1 to 9, and perhaps another digit". */
    private static void everyByteOfWidths() {
        at("{1:", "1234");
        for (int point = 1; point <= 4; point++) {
            at("{1:" + point, "><}");
        }
        String[] before = {"{1>", "{1<", "{1:4>", "{x<", "{'w'>", "{(1)<"};
        for (String text : before) {
            at(text, "123456789");
            at(text + "1", DIGITS + "}");
            at(text + "2", "0}");
            for (int first = 3; first <= 9; first++) {
                at(text + first, "}");
            }
            for (int width = 10; width <= 20; width++) {
                at(text + width, "}");
            }
        }
    }

    /** Behind a factor, and where one begins. */
    private static void everyByteOfExprs() {
        String[] begins = {"{(", "{-", "{1+", "{1-", "{1*", "{f(", "{f(1,", "{f(1,2,", "{x*-", "{((", "{-(", "{f(("};
        for (String text : begins) {
            at(text, FACTOR);
        }
        at("{1", DIGITS + ALONE);
        at("{12345678901234", DIGITS + ALONE);
        at("{x", LETTERS + ALONE + "(");
        at("{abcdefg", LETTERS + ALONE + "(");
        at("{'w'", ALONE);
        at("{''", ALONE);
        at("{(1)", ALONE);
        at("{f(1)", ALONE);
        at("{-1", DIGITS + ALONE);
        at("{1+x", LETTERS + ALONE + "(");
        at("{(1", DIGITS + BEHIND + ")");
        at("{(x", LETTERS + BEHIND + "()");
        at("{((1)", BEHIND + ")");
        at("{f(1", DIGITS + BEHIND + ",)");
        at("{f('w'", BEHIND + ",)");
        at("{f((1)", BEHIND + ",)");
        at("{f((1", DIGITS + BEHIND + ")");
        at("{(f(1)", BEHIND + ")");
    }

    /** The same where a limit has been reached: eight deep, 120 tags. */
    private static void everyByteAtLimits() {
        String flat = DIGITS + LETTERS + "'";
        at("{-------", flat);
        at("{(((((((", flat);
        at("{f(f(f(f(f(f(f(", flat);
        at("{f(1,-(-(-", FACTOR);
        at("{f(1,-(-(-(", flat);
        at("{-------x", LETTERS + ALONE);
        at("{------x", LETTERS + ALONE + "(");
        at("{a}".repeat(120), allBut("{"));
        at("{a}".repeat(119), allBut(""));
        at("{a}".repeat(119) + "{", FACTOR + "{");
    }

    private static String allBut(String left) {
        StringBuilder all = new StringBuilder();
        for (int b = 0; b < 256; b++) {
            if (left.indexOf(b) < 0) {
                all.append((char) b);
            }
        }
        return all.toString();
    }

    /** Behind a byte that may stand there it goes on to the END, or is whole; any other is the place told. */
    private static void at(String before, String allowed) {
        for (int b = 0; b < 256; b++) {
            MergeDesk desk = new MergeDesk();
            int answer = Check.compile(desk, before + (char) b);
            boolean goesOn = answer == 0 || answer == before.length() + 2;
            boolean isDue = allowed.indexOf(b) >= 0 ? goesOn : answer == before.length() + 1;
            Check.due("byte " + b + " behind " + before + " answered " + answer, true, isDue);
            Check.due("a template then", answer == 0, !Check.merge(desk).equals(Check.STATE));
        }
    }

    private static final String[] TAGS = {"{x}", "{abcdefgh}", "{123456789012345}", "{'abcdefghijkl'}", "{''}", "{1:4}",
        "{1>20}", "{1<9}", "{1:2>13}", "{-1}", "{(1)}", "{1+2-3*4}", "{f(1)}", "{f(x,'w',(2))}", "{let abc=x+1}",
        "{-(-(-(-1)))}", "{lets}"};
    private static final String[] BLOCKS = {"{if 1}{end}", "{if x}ab{else}cd{end}", "{each t}{end}",
        "{each t c=x*2}{x}{{{end}", "{each t}{if 1}{if 2}{else}{end}{end}{end}"};

    /** "At the END: a tag .. that is open", wherever in the tag it comes; "THE END" is that at 500, too. */
    private static void theEndInTags() {
        for (String tag : TAGS) {
            for (int cut = 1; cut < tag.length(); cut++) {
                Check.refuses(tag.substring(0, cut), cut);
                Check.refuses("y{1}" + tag.substring(0, cut), 4 + cut);
                Check.refuses("y".repeat(500 - cut) + tag, 500);
            }
            Check.due(tag, 0, Check.compile(new MergeDesk(), tag));
            Check.due(tag + " to 500", 0, Check.compile(new MergeDesk(), "y".repeat(500 - tag.length()) + tag));
            Check.refuses("y".repeat(501 - tag.length()) + tag, 500);
        }
    }

    /** "At the END: .. a block that is open". */
    private static void theEndInBlocks() {
        for (String block : BLOCKS) {
            for (int cut = 1; cut < block.length(); cut++) {
                Check.refuses(block.substring(0, cut), cut);
                Check.refuses("y".repeat(500 - cut) + block, 500);
            }
            Check.due(block, 0, Check.compile(new MergeDesk(), block));
            Check.due(block + " to 500", 0, Check.compile(new MergeDesk(), "y".repeat(500 - block.length()) + block));
            Check.refuses(block + "y".repeat(501 - block.length()), 500);
        }
    }

    /** What is wrong before the END is told first, also when the END comes just behind it. */
    private static void wrongBeforeTheEnd() {
        String[] words = {"each", "end", "if", "else", "let"};
        String[] before = {"{1+", "{-", "{(", "{f(", "{let ", "{each ", "{each t ", "{if ", "{let a="};
        for (String word : words) {
            for (String text : before) {
                Check.refuses(text + word, text.length());
                Check.refuses("y".repeat(500 - text.length() - word.length()) + text + word + "s}",
                        500 - word.length());
            }
        }
        Check.refuses("y".repeat(490) + "{abcdefghi", 491);
        Check.refuses("y".repeat(483) + "{1234567890123456", 484);
        Check.refuses("y".repeat(485) + "{'abcdefghijklm", 486);
        Check.refuses("y".repeat(490) + "{'a;" + "y".repeat(50), 491);
        Check.refuses("y".repeat(498) + "{}" + "y".repeat(50), 499);
        Check.refuses("y".repeat(495) + "{end}" + "y".repeat(50), 495);
        Check.refuses("y".repeat(494) + "{else}" + "y".repeat(50), 494);
        Check.refuses("y".repeat(496) + "{1>0" + "y".repeat(50), 499);
        Check.refuses("y".repeat(495) + "{1>21" + "y".repeat(50), 499);
        Check.refuses("y".repeat(496) + "{1:5" + "y".repeat(50), 499);
        Check.refuses("y".repeat(491) + "{--------" + "y".repeat(50), 499);
        Check.refuses("{a}".repeat(120) + "y".repeat(139) + "{", 499);
        Check.refuses("{a}".repeat(120) + "y".repeat(139) + "{{", 499);
        Check.refuses("{if 1}".repeat(6) + "y".repeat(460) + "{if 1}", 496);
    }

    /** What would be wrong behind the END is not seen any more. */
    private static void wrongBehindTheEnd() {
        Check.refuses("y".repeat(491) + "{abcdefghi", 500);
        Check.refuses("y".repeat(484) + "{1234567890123456}", 500);
        Check.refuses("y".repeat(486) + "{'abcdefghijklm'}", 500);
        Check.refuses("y".repeat(497) + "{'a;'}", 500);
        Check.refuses("y".repeat(499) + "{}", 500);
        Check.refuses("y".repeat(496) + "{end}", 500);
        Check.refuses("y".repeat(495) + "{else}", 500);
        Check.refuses("y".repeat(497) + "{1>0}", 500);
        Check.refuses("y".repeat(496) + "{1>21}", 500);
        Check.refuses("y".repeat(497) + "{1:5}", 500);
        Check.refuses("y".repeat(492) + "{--------1}", 500);
        Check.refuses("{a}".repeat(120) + "y".repeat(140) + "{a}", 500);
        Check.refuses("{if 1}".repeat(6) + "y".repeat(461) + "{if 1}", 500);
        Check.refuses("y".repeat(500) + "{end}", 500);
        Check.refuses("y".repeat(500) + "{}", 500);
        Check.refuses("{if 1}" + "y".repeat(494) + "{end}", 500);
    }

    /** "Factors are at most eight deep .. the outermost ones are 1 deep": in every EXPR of a tag. */
    private static void depthAtEverySite() {
        String[][] sites = {{"{", "}"}, {"{1+", "}"}, {"{1-", "}"}, {"{2*", "}"}, {"{1+2*", "-3}"}, {"{if ", "}{end}"},
            {"{let a=", "}"}, {"{each t c=", "}{end}"}, {"{", ":2>9}"}, {"{f(1)+", "}"}, {"{(1)-", "}"}};
        String[][] deeper = {{"(", ")"}, {"-", ""}, {"f(", ")"}, {"f(1,", ")"}, {"(1+", ")"}, {"(2*", "-3)"}};
        for (String[] site : sites) {
            for (String[] by : deeper) {
                String eight = site[0] + by[0].repeat(7) + "1" + by[1].repeat(7) + site[1];
                Check.due(eight, 0, Check.compile(new MergeDesk(), eight));
                String nine = site[0] + by[0].repeat(8) + "1" + by[1].repeat(8) + site[1];
                int sign = Math.max(by[0].indexOf('('), by[0].indexOf('-'));
                Check.refuses(nine, site[0].length() + 7 * by[0].length() + sign);
            }
        }
    }

    /** "each ( and each - makes what is in it, or behind it, one deeper": in every order. */
    private static void depthOfEveryKind() {
        for (int mask = 0; mask < 256; mask++) {
            StringBuilder begin = new StringBuilder("{");
            StringBuilder close = new StringBuilder();
            for (int bit = 0; bit < 8; bit++) {
                boolean isBracket = (mask >> bit & 1) == 1;
                if (bit == 7) {
                    String eight = begin + "1" + close + "}";
                    Check.due(eight, 0, Check.compile(new MergeDesk(), eight));
                    String nine = begin + (isBracket ? "(1)" : "-1") + close + "}";
                    Check.refuses(nine, begin.length());
                    Check.refuses(begin + "f(1)" + close + "}", begin.length() + 1);
                }
                begin.append(isBracket ? '(' : '-');
                close.append(isBracket ? ")" : "");
            }
        }
    }

    /** "At most six tags each and if are open one within the other." */
    private static void openOfEveryKind() {
        String[] kinds = {"{if 1}", "{each t}"};
        for (int mask = 0; mask < 64; mask++) {
            StringBuilder begin = new StringBuilder();
            for (int bit = 0; bit < 6; bit++) {
                begin.append(kinds[mask >> bit & 1]);
            }
            String ends = "{end}".repeat(6);
            Check.accepts(begin + ends, 12);
            Check.accepts(begin + "{let a=1}{a}{{" + ends, 14);
            Check.refuses(begin + kinds[0] + ends + "{end}", begin.length());
            Check.refuses(begin + kinds[1] + ends + "{end}", begin.length());
            Check.refuses(begin + "{each t c=1}" + ends + "{end}", begin.length());
            Check.accepts(begin + "{end}" + kinds[mask & 1] + ends, 14);
            Check.refuses(begin + ends + "{end}", begin.length() + ends.length());
        }
        Check.accepts("{if 1}".repeat(6) + "{else}" + "{end}".repeat(6), 13);
        Check.refuses("{if 1}".repeat(6) + "{else}{if 1}", 42);
    }

    /** "At most 120 tags": ends, elses and blocks are among them, and any tag can be the 121st. */
    private static void tagsOfEveryKind() {
        String[] kinds = {"{1}", "{let a=1}", "{if 1}{end}", "{each t}{end}", "{end}", "{else}", "{}", "{", "{if", "{1"};
        for (String kind : kinds) {
            Check.refuses("{a}".repeat(120) + kind, 360);
            Check.refuses("y" + "{a}".repeat(120) + "{{" + kind, 363);
        }
        Check.accepts("{a}".repeat(119) + "{let a=1}", 120);
        Check.refuses("{a}".repeat(119) + "{if 1}{end}", 363);
        Check.accepts("{a}".repeat(118) + "{if 1}{end}", 120);
        Check.refuses("{a}".repeat(118) + "{if 1}{else}{end}", 366);
        Check.accepts("{a}".repeat(117) + "{if 1}{else}{end}", 120);
        Check.refuses("{a}".repeat(119) + "{if 1}{else}{end}", 363);
        Check.accepts("{a}".repeat(120) + "{{".repeat(70), 120);
    }

    /** "1 to 15 digits"; "more than 12 bytes": by their lengths. */
    private static void digitsAndQuotesByLength() {
        for (int length = 1; length <= 20; length++) {
            String digits = "12345678901234567890".substring(0, length);
            String word = "abcdefghijklmnopqrst".substring(0, length);
            if (length <= 15) {
                Check.accepts("{" + digits + "}", 1);
                Check.accepts("{-" + digits + "*" + digits + "}", 1);
            } else {
                Check.refuses("{" + digits + "}", 1);
                Check.refuses("{-" + digits + "}", 2);
                Check.refuses("{1*" + digits, 3);
            }
            if (length <= 12) {
                Check.accepts("{'" + word + "'}", 1);
                Check.refuses("{'" + word, 2 + length);
            } else {
                Check.refuses("{'" + word + "'}", 1);
                Check.refuses("{'" + word, 1);
            }
            Check.refuses("{'" + word + ";", 1);
            Check.refuses("{'" + word + "}'}", 1);
        }
    }

    /** "tells the first place at which it can't go on": of two that are wrong, the one that is read first. */
    private static void firstPlaceCounts() {
        Check.refuses("{end}{", 0);
        Check.refuses("{}{}", 1);
        Check.refuses("{1+}{end}", 3);
        Check.refuses("{if 1}{else}{else}{", 12);
        Check.refuses("{end!", 4);
        Check.refuses("{else!", 5);
        Check.refuses("{if 1}".repeat(6) + "{each}", 41);
        Check.refuses("{if 1}".repeat(6) + "{if!}", 39);
        Check.refuses("{if 1}".repeat(6) + "{if }", 36);
        Check.refuses("{if 1}".repeat(6) + "{each each}", 36);
        Check.refuses("{a}".repeat(120) + "{end!", 360);
        Check.refuses("{abcdefghi(", 1);
        Check.refuses("{f(1234567890123456,'a;')}", 3);
        Check.refuses("{f('a;',1234567890123456)}", 3);
        Check.refuses("{1:5>99", 3);
        Check.refuses("{1>99!", 4);
        Check.refuses("{let each=}", 5);
        Check.refuses("{each if end=}", 6);
    }
}
