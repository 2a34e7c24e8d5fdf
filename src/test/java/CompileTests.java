/** Promise 7 in full: which templates are refused, and the place that is told of each. */
public final class CompileTests {

    public static void main(String[] args) {
        plainBytes();
        tagWords();
        ends();
        eachTags();
        ifAndLetTags();
        printTags();
        names();
        factors();
        quotes();
        depth();
        functions();
        openBlocks();
        tagLimit();
        sizeLimit();
        Check.end();
    }

    private static void plainBytes() {
        Check.accepts("", 0);
        Check.accepts("abc } }} ' ; \u0000\u00ff", 0);
        Check.accepts("{{", 0);
        Check.accepts("{{{{}", 0);
        Check.accepts("{{{a}", 1);
        Check.accepts("{a}}", 1);
        Check.refuses("{", 1);
        Check.refuses("{{{", 3);
        Check.refuses("ab{", 3);
        Check.refuses("{}", 1);
        Check.refuses("{ a}", 1);
    }

    private static void tagWords() {
        Check.refuses("{each", 5);
        Check.refuses("{each}", 5);
        Check.refuses("{each(1)}", 5);
        Check.refuses("{if", 3);
        Check.refuses("{if(1)}", 3);
        Check.refuses("{let", 4);
        Check.refuses("{let=1}", 4);
        Check.refuses("{end", 4);
        Check.refuses("{end(1)}", 4);
        Check.refuses("{else+1}", 5);
        Check.accepts("{eachs}{ends}{ifs}{elses}{lets}{en}{i}", 7);
        Check.refuses("{eachs a}", 6);
        Check.refuses("{EACH a}", 1);
    }

    private static void ends() {
        Check.refuses("{end}", 0);
        Check.refuses("a{else}", 1);
        Check.refuses("{end }", 4);
        Check.refuses("{else }", 5);
        Check.refuses("{if 1}{end}{end}", 11);
        Check.refuses("{if 1}{else}{else}{end}", 12);
        Check.refuses("{if 1}{else}{else }", 17);
        Check.refuses("{each a}{else}{end}", 8);
        Check.refuses("{if 1}{each a}{else}{end}{end}", 14);
        Check.accepts("{each a}{if 1}{else}{end}{end}", 5);
        Check.accepts("{if 1}{else}{if 2}{else}{end}{end}", 6);
        Check.accepts("{if 1}{if 2}{else}{end}{else}{end}", 6);
        Check.refuses("{if 1}{if 2}{else}{end}{else}{end}{else}", 34);
        Check.accepts("{if 1}{else}{end}{if 1}{else}{end}", 6);
    }

    private static void eachTags() {
        Check.accepts("{each a}{end}", 2);
        Check.accepts("{each a b=1}{end}", 2);
        Check.accepts("{each a b=c+'x'*(1)}{end}", 2);
        Check.refuses("{each  a}", 6);
        Check.refuses("{each }", 6);
        Check.refuses("{each a", 7);
        Check.refuses("{each a }", 8);
        Check.refuses("{each a  b=1}", 8);
        Check.refuses("{each a=1}", 7);
        Check.refuses("{each a b}", 9);
        Check.refuses("{each a b =1}", 9);
        Check.refuses("{each a b= 1}", 10);
        Check.refuses("{each a b=}", 10);
        Check.refuses("{each a b=1 }", 11);
        Check.refuses("{each a b=1:2}", 11);
        Check.refuses("{each a b=1>2}", 11);
        Check.refuses("{each 'a'}", 6);
        Check.refuses("{each let}{end}", 6);
        Check.refuses("{each a if=1}{end}", 8);
        Check.refuses("{each abcdefghi}", 6);
        Check.refuses("{each a abcdefghi=1}", 8);
        Check.refuses("{each a}", 8);
    }

    private static void ifAndLetTags() {
        Check.accepts("{if 1}{end}", 2);
        Check.accepts("{let a=1}", 1);
        Check.refuses("{if  1}", 4);
        Check.refuses("{if }", 4);
        Check.refuses("{if 1", 5);
        Check.refuses("{if 1 }", 5);
        Check.refuses("{if 1:2}", 5);
        Check.refuses("{if 1<2}", 5);
        Check.refuses("{if 1=1}", 5);
        Check.refuses("{let  a=1}", 5);
        Check.refuses("{let a =1}", 6);
        Check.refuses("{let a= 1}", 7);
        Check.refuses("{let a}", 6);
        Check.refuses("{let 1=1}", 5);
        Check.refuses("{let a=}", 7);
        Check.refuses("{let a=1:2}", 8);
        Check.refuses("{let a=1>5}", 8);
        Check.refuses("{let a=1", 8);
        Check.refuses("{let end=1}", 5);
        Check.refuses("{let abcdefghi=1}", 5);
        Check.refuses("{let a(1)=1}", 6);
    }

    private static void printTags() {
        Check.accepts("{1:1}{1:4}{1>1}{1<9}{1>10}{1<20}{1:2>8}{1:3<19}", 8);
        Check.refuses("{1:}", 3);
        Check.refuses("{1:0}", 3);
        Check.refuses("{1:5}", 3);
        Check.refuses("{1:a}", 3);
        Check.refuses("{1:22}", 4);
        Check.refuses("{1:2:2}", 4);
        Check.refuses("{1:", 3);
        Check.refuses("{1:2", 4);
        Check.refuses("{1>}", 3);
        Check.refuses("{1>0}", 3);
        Check.refuses("{1>05}", 3);
        Check.refuses("{1<a}", 3);
        Check.refuses("{1>21}", 4);
        Check.refuses("{1<99}", 4);
        Check.refuses("{1>200}", 5);
        Check.refuses("{1>2<3}", 4);
        Check.refuses("{1>2:3}", 4);
        Check.refuses("{1>", 3);
        Check.refuses("{1>2", 4);
        Check.refuses("{1>20", 5);
        Check.refuses("{1 }", 2);
        Check.refuses("{1=1}", 2);
        Check.refuses("{a b}", 2);
        Check.refuses("{a{b}}", 2);
    }

    private static void names() {
        Check.accepts("{abcdefgh}{a}{z}", 3);
        Check.refuses("{abcdefghi}", 1);
        Check.refuses("{1+abcdefghi", 3);
        Check.refuses("{a1}", 2);
        Check.refuses("{aB}", 2);
        Check.refuses("{A}", 1);
        Check.refuses("{`}", 1);
        Check.refuses("{1+each}", 3);
        Check.refuses("{(if)}", 2);
        Check.refuses("{-let}", 2);
        Check.refuses("{f(else)}", 3);
        Check.refuses("{1*end(1)}", 3);
        Check.accepts("{1+eachs}", 1);
    }

    private static void factors() {
        Check.accepts("{123456789012345}{000000000000000}", 2);
        Check.refuses("{1234567890123456}", 1);
        Check.refuses("{1234567890123456", 1);
        Check.refuses("{1+0000000000000001}", 3);
        Check.accepts("{1+2-3*4*-5+-6-(7)}", 1);
        Check.refuses("{+1}", 1);
        Check.refuses("{*1}", 1);
        Check.refuses("{1+}", 3);
        Check.refuses("{1*}", 3);
        Check.refuses("{1-}", 3);
        Check.refuses("{1++2}", 3);
        Check.refuses("{1 + 2}", 2);
        Check.refuses("{1+ 2}", 3);
        Check.refuses("{1/2}", 2);
        Check.refuses("{1.5}", 2);
        Check.refuses("{1a}", 2);
        Check.refuses("{a'b'}", 2);
        Check.refuses("{()}", 2);
        Check.refuses("{(1}", 3);
        Check.refuses("{(1", 3);
        Check.refuses("{(1,2)}", 3);
        Check.refuses("{1)}", 2);
        Check.refuses("{-}", 2);
        Check.refuses("{-", 2);
        Check.refuses("{1(2)}", 2);
        Check.refuses("{\u00e9}", 1);
        Check.accepts("{1" + "+1".repeat(240) + "}", 1);
        Check.accepts("{1" + "*1".repeat(240) + "}", 1);
    }

    private static void quotes() {
        Check.accepts("{''}{'abcdefghijkl'}{' !\"#$%&()*+,'}{'./:<=>?@[{|~'}", 4);
        Check.refuses("{'abcdefghijklm'}", 1);
        Check.refuses("{'abcdefghijklm", 1);
        Check.refuses("{'abcdefghijkl", 14);
        Check.refuses("{'", 2);
        Check.refuses("{'abc", 5);
        Check.refuses("{'abc}", 1);
        Check.refuses("{1+'a;b'}", 3);
        Check.refuses("{'a}b'}", 1);
        Check.refuses("{'a\u001f'}", 1);
        Check.refuses("{'a\u007f'}", 1);
        Check.refuses("{'\u0080'}", 1);
        Check.refuses("{'abcdefghijkl;'}", 1);
        Check.refuses("{'a''b'}", 4);
        Check.refuses("{'abcdefghijkl'm'}", 15);
    }

    private static void depth() {
        Check.accepts("{(((((((1)))))))}", 1);
        Check.refuses("{((((((((1))))))))}", 8);
        Check.refuses("{((((((((", 8);
        Check.accepts("{-------1}", 1);
        Check.refuses("{--------1}", 8);
        Check.accepts("{-(-(-(-1)))}", 1);
        Check.refuses("{-(-(-(-(1))))}", 8);
        Check.refuses("{(-(-(-(-1))))}", 8);
        Check.accepts("{f(f(f(f(f(f(f(1)))))))}", 1);
        Check.refuses("{f(f(f(f(f(f(f(f(1))))))))}", 16);
        Check.accepts("{f(f(f(f(f(f(f(a-1-b*2)))))))}", 1);
        Check.accepts("{(((((((1))))))-1-1-1-1-1-1-1-1-1)}", 1);
        Check.refuses("{(((((((a-1-(2))))))))}", 12);
        Check.refuses("{1+--------1}", 10);
        Check.accepts("{-------1*-------1--------1}", 1);
        Check.accepts("{let a=-------1}", 1);
        Check.refuses("{let a=--------1}", 14);
        Check.accepts("{if -------1}{end}", 2);
        Check.refuses("{if --------1}{end}", 11);
        Check.accepts("{each a b=-------1}{end}", 2);
        Check.refuses("{each a b=--------1}{end}", 17);
        Check.accepts("{f(1,------1)}", 1);
        Check.refuses("{f(1,-------1)}", 11);
        Check.accepts("{f(1,f(1,f(1,f(1,f(1,f(1,f(1,2)))))))}", 1);
        Check.refuses("{f(1,f(1,f(1,f(1,f(1,f(1,f(1,(2))))))))}", 29);
    }

    private static void functions() {
        Check.accepts("{f(1)}{g(a,b,'c')}{nofunc(1,(2),-3)}", 3);
        Check.refuses("{f()}", 3);
        Check.refuses("{f(}", 3);
        Check.refuses("{f(", 3);
        Check.refuses("{f(1", 4);
        Check.refuses("{f(1}", 4);
        Check.refuses("{f(1 )}", 4);
        Check.refuses("{f(1,)}", 5);
        Check.refuses("{f(1, 2)}", 5);
        Check.refuses("{f(,1)}", 3);
        Check.refuses("{f (1)}", 2);
        Check.refuses("{f(1)(2)}", 5);
        Check.refuses("{f(1;2)}", 4);
        Check.refuses("{abcdefghi(1)}", 1);
        Check.accepts("{f(1" + ",1".repeat(200) + ")}", 1);
    }

    private static void openBlocks() {
        Check.refuses("{if 1}", 6);
        Check.refuses("{if 1}{else}", 12);
        Check.refuses("{each a}abc", 11);
        Check.refuses("{if 1}{end", 10);
        Check.accepts("{if 1}".repeat(6) + "{end}".repeat(6), 12);
        Check.accepts("{each a}{if 1}".repeat(3) + "{end}".repeat(6), 12);
        Check.refuses("{if 1}".repeat(7) + "{end}".repeat(7), 36);
        Check.refuses("{if 1}".repeat(6) + "{each a}", 36);
        Check.refuses("{if 1}".repeat(6) + "{if}", 39);
        Check.refuses("{if 1}".repeat(6) + "{if }", 36);
        Check.refuses("{if 1}".repeat(6) + "{each !", 36);
        Check.accepts("{if 1}".repeat(5) + "{else}{if 1}{else}{end}" + "{end}".repeat(5), 14);
        Check.accepts("{if 1}{end}".repeat(20), 40);
        Check.accepts("{if 1}".repeat(6) + "{let a=1}" + "{end}".repeat(6), 13);
    }

    private static void tagLimit() {
        Check.accepts("{a}".repeat(120), 120);
        Check.accepts("{a}".repeat(120) + "{{x", 120);
        Check.refuses("{a}".repeat(121), 360);
        Check.refuses("{a}".repeat(120) + "{", 360);
        Check.refuses("{a}".repeat(120) + "{}", 360);
        Check.refuses("{a}".repeat(120) + "{end x}", 360);
        Check.refuses("{if 1}" + "{a}".repeat(119) + "{end}", 363);
        Check.accepts("{if 1}" + "{a}".repeat(118) + "{end}", 120);
        Check.accepts("{if 1}{else}" + "{a}".repeat(117) + "{end}", 120);
    }

    private static void sizeLimit() {
        Check.accepts("x".repeat(500), 0);
        Check.refuses("x".repeat(501), 500);
        Check.refuses("x".repeat(600), 500);
        Check.refuses("x".repeat(10) + "{" + "x".repeat(500), 11);
        Check.accepts("x".repeat(497) + "{a}", 1);
        Check.refuses("x".repeat(498) + "{a}", 500);
        Check.refuses("x".repeat(497) + "{a}x", 500);
        Check.refuses("x".repeat(499) + "{{", 500);
        Check.accepts("x".repeat(498) + "{{", 0);
        Check.refuses("{if 1}" + "x".repeat(494), 500);
        Check.refuses("x".repeat(490) + "{end}" + "x".repeat(20), 490);
        Check.refuses("x".repeat(495) + "{'abcdefgh'}", 500);
        Check.refuses("x".repeat(487) + "{'abcdefghijk;'}", 500);
        Check.refuses("x".repeat(490) + "{abcdefghi}", 491);
        Check.refuses("x".repeat(490) + "{abcdefghijkl}", 491);
        Check.refuses("x".repeat(491) + "{abcdefghijkl}", 500);
    }
}
