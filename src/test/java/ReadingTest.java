/** Promise 4, what 18: reading the source, expansion, conditions, numbers, and what is set. */
public final class ReadingTest {
    public static void main(String[] args) {
        lines();
        names();
        macros();
        expansion();
        conditions();
        numbers();
        dimensions();
        glue();
        groups();
        definitions();
        quantities();
        limits();
        ends();
        House.close();
    }

    private static void run(String source, int answer) {
        House.dueRun(source, answer);
    }

    private static void count(String source, int value) {
        House.dueCount(source, value);
    }

    /** What a source prints, each character 5pt wide, and no spaces. */
    private static void prints(String source, String text) {
        House h = House.ran("\\setbox1\\hbox{" + source + "}\\vsize9pt\\box1", 0);
        StringBuilder marks = new StringBuilder();
        String[] all = String.join(" ", h.pages()).split(" ");
        for (int i = 0; i + 2 < all.length; i += 3) {
            marks.append(all[i]);
        }
        House.due(source, marks.toString(), text);
    }

    private static void lines() {
        run("\\undefined", 1100001);
        run("\n\n\\undefined", 1100003);
        run("\n\n\\undefined\n\n", 1100003);
        run("{\n\n", 900002);
        run("{\n\n ", 900003);
        run("{   \n", 900001);
        run("\u007f", 100001);
        run("%\u007f\n\u007f", 100002);
        run("\0\\count1=3 \0", 0);
        prints("ab%cd\n  ef", "abef");
        prints("a\rb\nc", "ac");
        count("\\def\\par{\\advance\\count1 by 1 }\n\n  \na\n\n\\end", 3);
        count("\\catcode13=12 \\def\\a#1{\\count1=`#1}\\a\n\\relax\\end", 13);
        count("\\def\\a#1#2{\\count1=`#2}\\a x  y", 'y');
        count("\\def\\a#1.{\\count1=0#1}\\a 4  2.\\end", 4);
        run("a \n  b", 0);
        House.due("spaces at the begin of lines are none", House.ran("a \n  b", 0).house.about(3), 7);
    }

    private static void names() {
        count("\\def\\\u0001{\\count1=5 }\\\u0001", 5);
        count("\\def\\abc{\\count1=6 }\\abc%", 6);
        count("\\catcode`@=11 \\def\\a@b{\\count1=7 }\\a@b", 7);
        count("\\def~{\\count1=8 }~", 8);
        count("\\catcode13=0 \\expandafter\\def\\csname\\endcsname{\\count1=9 }\\relax\n\\catcode13=5 \\end", 9);
        run("\\" + "a".repeat(40), 1100001);
        run("\\" + "a".repeat(41), 200001);
        run("\\csname " + "a".repeat(40) + "\\endcsname", 0);
        run("\\csname " + "a".repeat(41) + "\\endcsname", 200001);
    }

    private static void macros() {
        count("\\def\\a{\\count1=1 }\\a", 1);
        count("\\def\\a#1{\\count1=#1 }\\a2\\relax", 2);
        count("\\def\\a#1#2{\\count1=#2#1 }\\a {12}3", 312);
        count("\\def\\a x#1y#2.{\\count1=#2#1 }\\a x1y2.", 21);
        run("\\def\\a x{}\\a y", 400001);
        run("\\def\\a#1{}\\a}", 500001);
        run("\\def\\a#1.{}{\\a}.", 500001);
        run("\\def\\a#1{}\\a", 900001);
        run("\\def\\a#1.{}\\a {.", 900001);
        count("\\def\\a#1.{\\b#1}\\def\\b#1#2{\\count1=#1 }\\a{12}3.", 12);
        count("\\def\\a#1.{\\b#1}\\def\\b#1#2{\\count1=#1 }\\a{12}.3", 1);
        count("\\def\\a#1.{\\b#1}\\def\\b#1#2{\\count1=#1 }\\a{1}{2}.", 1);
        count("\\def\\a#1.{\\count1=3#1 }\\a.", 3);
        count("\\def\\a#1ab{\\count1=0#1 }\\a 1{}2ab", 1);
        prints("\\def\\a#1#2#3#4#5#6#7#8#9{#9#8#7#6#5#4#3#2#1}\\a abcdefgh{ij}", "ijhgfedcba");
        prints("\\def\\e{}\\def\\a#1.{\\def\\b{#1}\\ifx\\b\\e y\\fi}\\a{}.\\a.", "yy");
        prints("\\def\\a#1#2xy{(#1)(#2)}\\a xyxy", "(x)(y)");
        prints("\\def\\a#1aab{(#1)}\\a aaab", "(a)");
        prints("\\def\\a#1ab{(#1)}\\a{ab}cab", "(abc)");
        prints("\\def\\a#1{\\def\\b##1{#1##1#1}}\\a x\\b y", "xyx");
    }

    private static void expansion() {
        prints("\\def\\a{b}\\expandafter\\string\\a", "b");
        prints("\\def\\a#1{(#1)}\\def\\b{xy}\\expandafter\\a\\b", "(x)y");
        prints("\\expandafter ab", "ab");
        prints("\\def\\a{x}\\edef\\b{\\a\\noexpand\\a}\\def\\a{y}\\b", "xy");
        prints("\\noexpand a", "a");
        House.due("a marked macro does nothing", House.ran("\\def\\a{x}\\noexpand\\a", 0).house.about(2), 0);
        prints("\\def\\x{y}\\csname x\\endcsname", "y");
        prints("\\ifx\\foo\\relax n\\fi\\csname foo\\endcsname\\ifx\\foo\\relax y\\fi", "y");
        prints("{\\csname foo\\endcsname}\\ifx\\foo\\undefined y\\fi", "y");
        run("\\csname\\relax\\endcsname", 600001);
        run("\\csname a", 900001);
        run("\\endcsname", 600001);
        run("\\dp1", 600001);
        run("\\ht1", 600001);
        run("\\csname expandafter\\endcsname\\relax\\relax", 0);
        prints("\\string\\expandafter", "\\expandafter");
        prints("\\catcode92=12 \\string", "\\string");
        prints("\\string\\abc\\string~\\string{\\string}", "\\abc~{}");
        prints("\\catcode`@=11 \\def\\a#1{\\ifcat#11y\\else n\\fi}\\expandafter\\a\\string @", "y");
        prints("\\number-0042 \\number\\count1 \\number`a", "-42097");
        prints("\\romannumeral3999 ", "mmmcmxcix");
        prints("\\romannumeral444 \\romannumeral0 \\romannumeral-5 x", "cdxlivx");
        run("\\romannumeral10000 ", 700001);
        prints("\\count1=-7 \\the\\count1.\\the\\catcode`a.\\the\\hsize.\\chardef\\x=65 \\the\\x.\\x",
            "-7.11.26214400sp.65.A");
        prints("\\skip1=-2sp plus 1fil\\relax\\the\\skip1 \\the\\parskip", "-2sp0sp");
        run("\\the\\relax", 600001);
        run("\\the", 900001);
    }

    private static void conditions() {
        prints("\\iftrue a\\else b\\fi\\iffalse a\\else b\\fi\\iffalse a\\fi", "ab");
        prints("\\if aay\\else n\\fi\\if aby\\else n\\fi\\let\\x=a\\if a\\x y\\else n\\fi", "yny");
        prints("\\ifcat aby\\else n\\fi\\ifcat a1y\\else n\\fi\\ifcat\\relax\\par y\\else n\\fi", "yny");
        prints("\\def\\a{b}\\if\\noexpand\\a\\relax y\\else n\\fi\\if\\a by\\else n\\fi", "yy");
        prints("\\def\\a#1{x#1}\\def\\b#1{x#1}\\def\\c#1{x}\\ifx\\a\\b y\\else n\\fi\\ifx\\a\\c y\\else n\\fi", "yn");
        prints("\\ifx\\u\\v y\\fi\\ifx aay\\fi\\ifx ab\\else n\\fi\\let\\p=\\par\\ifx\\p\\par y\\fi", "yyny");
        prints("\\chardef\\x=5 \\chardef\\y=5 \\ifx\\x\\y y\\fi\\font\\h=0 \\relax\\ifx\\h\\f y\\fi"
            + "\\font\\h=0 at 9pt\\relax\\ifx\\h\\f\\else n\\fi", "yyn");
        prints("\\ifnum1<2 y\\fi\\ifnum 2=2y\\fi\\ifnum-1>-2 y\\fi\\ifnum2<2 \\else n\\fi", "yyyn");
        run("\\ifnum1!2", 600001);
        run("\\catcode`<=11 \\ifnum1<2", 600001);
        prints("\\ifdim1pt=65536sp y\\fi\\ifdim.5pt<\\hsize y\\fi", "yy");
        prints("\\ifodd3 y\\fi\\ifodd-3 y\\fi\\ifodd0 \\else n\\fi", "yyn");
        prints("\\ifhmode y\\fi\\ifvmode\\else n\\fi\\setbox2\\vbox{\\ifvmode\\global\\count2=1 \\fi}\\number\\count2 ",
            "yn1");
        prints("\\ifvoid2 y\\fi\\setbox2\\hbox{}\\ifvoid2 \\else n\\fi\\setbox3\\box2\\relax\\ifvoid2 y\\fi", "yny");
        run("\\ifvoid256 \\fi", 700001);
        for (int n = -1; n <= 4; n++) {
            prints("(\\ifcase" + n + " a\\or b\\or c\\else d\\fi)", "(" + (n < 0 || n > 2 ? "d" : "abc".charAt(n)) + ")");
        }
        prints("\\ifcase7 a\\or b\\fi\\ifcase1 \\iftrue\\or\\fi\\or b\\fi", "b");
        prints("\\iffalse\\ifcase\\or\\else\\fi a\\else b\\fi", "b");
        prints("\\iffalse\\iftrue\\else\\fi a\\else b\\fi", "b");
        prints("\\iffalse\\if\\else\\fi\\else b\\fi", "b");
        prints("\\ifnum1>\\iftrue2 \\else a\\fi b\\else c\\fi", "c");
        prints("\\ifnum1<2\\else n\\fi\\ifnum1<2\\fi", "");
        prints("\\def\\a{\\ifnum1<2y\\else n\\fi}\\a\\expandafter\\a\\a", "yyy");
        run("\\fi", 800001);
        run("\\else", 800001);
        run("\\or", 800001);
        run("\\iftrue\\or", 800001);
        run("\\iffalse\\or", 800001);
        run("\\iffalse\\else\\else", 800001);
        run("\\ifcase5 \\else\\or", 800001);
        run("\\iftrue\\else\\or\\else\\fi", 0);
        run("\\iftrue", 900001);
        run("\\iffalse", 900001);
        run("\\iftrue\\else", 900001);
        run("\\ifnum1<\\fi", 600001);
    }

    private static void numbers() {
        count("\\count1=  - +- 12 ", 12);
        count("\\count1 2147483647", 2147483647);
        count("\\count1=-2147483647 ", -2147483647);
        run("\\count1=2147483648", 700001);
        count("\\count1=`a", 97);
        count("\\count1=`\\%", 37);
        count("\\count1=`~", 126);
        count("\\catcode`a=13 \\count1=`a", 97);
        run("\\count1=`\\ab", 600001);
        run("\\count1=`", 0);
        count("\\count1=`", ' ');
        run("\\count1=a", 600001);
        run("\\count1=\\undefined", 600001);
        run("\\count1=", 900001);
        run("\\count1=-", 900001);
        count("\\def\\a{2}\\count1=1\\a3", 123);
        count("\\count1=1%\n2 3", 12);
        count("\\count1=\\count2\\count1=\\dimen2\\count1=\\skip2", 0);
        count("\\dimen3=2sp\\count1=-\\dimen3", -2);
        count("\\skip3=2sp plus 3sp\\count1=\\skip3 ", 2);
        count("\\chardef\\x=77 \\count1=\\x", 77);
        count("\\count1=\\catcode`\\{", 1);
        run("\\count256=1", 700001);
        run("\\count-1=1", 700001);
        run("\\catcode256=1", 700001);
        run("\\catcode1=16", 700001);
        run("\\count1='7", 600001);
    }

    private static void dimensions() {
        count("\\dimen1=1pt\\count1=\\dimen1 ", 65536);
        count("\\dimen1=1pc\\count1=\\dimen1 ", 786432);
        count("\\dimen1=1in\\count1=\\dimen1 ", 4736287);
        count("\\dimen1=1bp\\count1=\\dimen1 ", 65782);
        count("\\dimen1=1cm\\count1=\\dimen1 ", 1864680);
        count("\\dimen1=1mm\\count1=\\dimen1 ", 186468);
        count("\\dimen1=3sp\\count1=\\dimen1 ", 3);
        count("\\dimen1=2em\\count1=\\dimen1 ", 1310720);
        count("\\dimen1=2ex\\count1=\\dimen1 ", 655360);
        count("\\dimen1= - .5 PT\\count1=\\dimen1 ", -32768);
        count("\\dimen1=2,5pT \\count1=\\dimen1 ", 163840);
        count("\\dimen1=.pt\\count1=\\dimen1 ", 0);
        run("\\dimen1=.00001pt", 700001);
        count("\\dimen2=10sp\\dimen1=.25\\dimen2\\count1=\\dimen1 ", 3);
        count("\\dimen2=-10sp\\dimen1=.25\\dimen2\\count1=\\dimen1 ", -3);
        count("\\count2=-2 \\dimen1=\\count2 sp\\count1=\\dimen1 ", -2);
        count("\\dimen1=-\\hsize\\count1=\\dimen1 ", -26214400);
        count("\\dimen1=1073741823sp\\count1=\\dimen1 ", 1073741823);
        run("\\dimen1=1073741824sp", 700001);
        run("\\dimen1=16384pt", 700001);
        run("\\dimen1=16383.9999pt", 0);
        run("\\dimen1=32768sp", 0);
        run("\\dimen1=32768\\dimen2 ", 700001);
        run("\\dimen1=0.00000pt", 700001);
        run("\\dimen1=1", 900001);
        run("\\dimen1=1%", 900001);
        run("\\dimen1=1p%", 600001);
        run("\\dimen1=1xy", 600001);
        run("\\dimen1=2147483648sp", 700001);
        run("\\dimen1=2147483647sp", 700001);
        run("\\kern1fil", 600001);
        House.due("em without a font", new House().run("\\dimen1=3em\\count1=\\dimen1 "), 0);
        Metrics few = new Metrics().plain();
        few.parameters.subList(4, 6).clear();
        House h = new House();
        h.give(0, few.bytes());
        House.due("a font without em", h.run("\\font\\f=0 \\f\\count1=5 \\dimen1=3em\\advance\\count1\\dimen1 "
            + "\\dimen1=3ex\\advance\\count1\\dimen1 "), 0);
        House.due("has 0 for it", h.house.count(1), 5);
        run("\\dimen1=p", 600001);
    }

    private static void glue() {
        count("\\skip1=1sp plus 2sp minus 3sp\\advance\\skip1 by 4sp plus 5sp minus 6sp\\count1=\\skip1 ", 5);
        run("\\skip1=1pt plus -1pt", 700001);
        run("\\skip1=1pt minus -1pt", 700001);
        run("\\skip1=1pt minus 1fil", 600001);
        prints("\\skip1=0pt plus1fil\\relax\\advance\\skip1 by0pt plus2fil\\relax"
            + "\\setbox3\\hbox to30sp{\\hskip\\skip1 \\hfil}\\ifdim\\wd3=30sp y\\fi", "y");
        run("\\skip1=1pt plus 16384fil", 700001);
        run("\\skip1=1pt plus 16383.9999fil", 0);
        run("\\skip1=1pt plus 1pt\\skip2=-\\skip1 ", 700001);
        count("\\skip1=1pt\\skip2=--\\skip1 \\skip2=-\\skip2 \\count1=\\skip2 ", -65536);
        run("\\multiply\\skip1 by-1 ", 0);
        run("\\skip1=1pt plus1sp\\multiply\\skip1 by-1 ", 700001);
        run("\\skip1=1pt plus1sp\\divide\\skip1 by-2 ", 0);
    }

    private static void groups() {
        count("\\count1=1 {\\count1=2 }", 1);
        count("\\count1=1 {\\global\\count1=2 }", 2);
        count("\\count1=1 {\\count1=3 \\global\\count1=2 \\count1=4 }", 2);
        count("\\count1=1 {\\count1=3 {\\global\\count1=2 }\\count1=5 }", 2);
        count("\\count1=1 \\begingroup\\count1=2 \\endgroup", 1);
        run("}", 1300001);
        run("\\endgroup", 1300001);
        run("{\\endgroup", 1300001);
        run("\\begingroup}", 1300001);
        run("\\hbox{\\endgroup", 1300001);
        run("{", 900001);
        run("\\let\\a={\\let\\b=}\\a\\a}\\b", 0);
        run("{\\def\\a{}}\\a", 1100001);
        run("{\\gdef\\a{}}\\a", 0);
        run("{\\catcode`a=14 }a", 0);
        run("{\\font\\g=0 \\g}\\g", 1100001);
        count("\\font\\g=0 at 20pt{\\g}\\setbox1\\hbox{a}\\count1=\\wd1 ", 327680);
        count("\\font\\g=0 at 20pt\\g\\setbox1\\hbox{a}\\count1=\\wd1 ", 655360);
        count("\\setbox1\\hbox{abc}{\\setbox1\\hbox{a}}\\count1=\\wd1 ", 983040);
        count("\\setbox1\\hbox{abc}{\\setbox2\\box1}\\count1=\\wd1 ", 0);
        count("\\setbox1\\hbox{abc}{\\global\\setbox1\\hbox{a}}\\count1=\\wd1 ", 327680);
        count("\\setbox1\\hbox{abc}{\\setbox1\\hbox{a}\\setbox2\\box1}\\count1=\\wd1 ", 983040);
    }

    private static void definitions() {
        run("\\def a{}", 600001);
        run("\\def\\a#2{}", 1200001);
        run("\\def\\a#1#1{}", 1200001);
        run("\\def\\a}", 500001);
        run("\\def\\a{#1}", 1200001);
        run("\\def\\a#1{#a}", 1200001);
        run("\\def\\a{##}", 0);
        run("\\def\\a{", 900001);
        run("\\def\\a", 900001);
        run("#", 1200001);
        prints("\\def\\a{x}\\def\\b{\\a}\\edef\\c{\\a}\\def\\a{y}\\b\\c", "yx");
        prints("\\def\\a{x}\\let\\b=\\a\\let\\c\\a\\def\\a{y}\\b\\c\\a", "xxy");
        prints("\\let\\a= = \\a\\let\\b== \\b", "==");
        prints("{\\xdef\\a{\\number\\count2 }}\\a", "0");
        prints("{\\global\\let\\a=x}\\a", "x");
        run("\\let\\a", 900001);
        run("\\let\\a=", 900001);
        run("\\chardef\\a=256 ", 700001);
        run("\\global\\relax \\global\\count1=3 ", 0);
        run("\\global\\hbox{}", 600001);
        run("\\global\\f", 600001);
        run("\\global\\wd1", 600001);
        run("\\global\\parfillskip=1pt", 0);
        run("\\global\\setbox1\\hbox{}", 0);
        run("\\global", 900001);
        run("\\wd1", 600001);
        run("\\font\\a=16 ", 700001);
        run("\\font\\a=1 ", 1400001);
        run("\\font\\a=0 at 0pt", 700001);
        run("\\font\\a=0 at 2048pt", 700001);
        run("\\font\\a=0 at 134217727sp", 0);
        run("\\font 0", 600001);
    }

    private static void quantities() {
        count("\\count1=5 \\advance\\count1 by -7 ", -2);
        count("\\count1=5 \\advance\\count1 7 ", 12);
        count("\\count1=5 \\multiply\\count1 by-3 \\divide\\count1 by 2 ", -7);
        run("\\count1=2147483647 \\advance\\count1 by 1 ", 700001);
        run("\\count1=-2147483647 \\advance\\count1 by -1 ", 700001);
        run("\\dimen1=16383pt\\advance\\dimen1 by 1pt", 700001);
        run("\\divide\\count1 by 0 ", 700001);
        run("\\advance\\wd1 by 1pt", 600001);
        run("\\advance\\relax by 1pt", 600001);
        run("\\advance\\catcode1 by 1 ", 600001);
        count("{\\global\\advance\\count1 by 4 }", 4);
        int[] counters = {100, 200, 10, 50, 50, 150, 150, 100, 0, 10000, 10000, 5000, 0};
        String[] names = {"pretolerance", "tolerance", "linepenalty", "hyphenpenalty", "exhyphenpenalty", "clubpenalty",
            "widowpenalty", "brokenpenalty", "interlinepenalty", "adjdemerits", "doublehyphendemerits",
            "finalhyphendemerits", "looseness"};
        for (int i = 0; i < names.length; i++) {
            count("\\count1=\\" + names[i], counters[i]);
        }
        int[] sizes = {26214400, 39321600, 1310720, 0, 262144, 0, 0, 786432, 65536, 655360, 0, 0, 0};
        String[] lengths = {"hsize", "vsize", "parindent", "lineskiplimit", "maxdepth", "emergencystretch", "parskip",
            "baselineskip", "lineskip", "topskip", "leftskip", "rightskip", "parfillskip"};
        for (int i = 0; i < lengths.length; i++) {
            count("\\count1=\\" + lengths[i], sizes[i]);
        }
    }

    /** The end of the source within anything that is not over. */
    private static void ends() {
        String[] open = {"\\if a%", "\\if%", "\\ifcat a%", "\\ifx a%", "\\ifx%", "\\ifnum1%", "\\ifnum1<%",
            "\\ifdim1pt%", "\\ifcase%", "\\ifvoid%", "\\ifodd%", "\\expandafter%", "\\expandafter a%", "\\noexpand%",
            "\\string%", "\\number%", "\\romannumeral-%", "\\the\\count%", "\\def%", "\\def\\a%", "\\def\\a#%",
            "\\def\\a{%", "\\edef\\a{%", "\\edef\\a{#%", "\\def\\a#1{#%", "\\let%", "\\let\\a%", "\\let\\a=%",
            "\\chardef\\a%", "\\chardef\\a=%", "\\font\\a%", "\\catcode%", "\\catcode1%", "\\catcode1=%", "\\count%",
            "\\count1%", "\\dimen1=-%", "\\skip1=%", "\\skip1=1pt plus%", "\\skip1=1pt plus1%", "\\advance%",
            "\\advance\\count1 by%", "\\kern%", "\\penalty%", "\\char%", "\\hskip%", "\\vskip%", "\\hbox to%", "\\hbox%",
            "\\vbox%", "\\box%", "\\copy%", "\\setbox%", "\\setbox1%", "\\setbox1=%", "\\moveleft%", "\\moveleft1pt%",
            "\\hrule width%", "\\global%", "\\global\\relax%", "\\count1=`%"};
        for (String source : open) {
            run(source, 900001);
        }
        String[] over = {"\\count1=1%", "\\count1=`a%", "\\dimen1=1pt%", "\\skip1=1pt%", "\\skip1=1pt plus1fil%",
            "\\hrule%", "\\hrule width1pt%", "\\number1%", "\\char97%", "\\font\\a=0%", "\\box1%"};
        for (String source : over) {
            run(source, 0);
        }
    }

    private static void limits() {
        run("{".repeat(100) + "}".repeat(100), 0);
        run("{".repeat(101), 200001);
        run("\\iftrue".repeat(100) + "\\fi".repeat(100), 0);
        run("\\iftrue".repeat(101), 200001);
        count("\\count1=" + "\\count".repeat(39) + "0 ", 0);
        run("\\count1=" + "\\count".repeat(40) + "0 ", 300001);
        String loop = "\\def\\l{\\ifnum\\count2<N \\advance\\count2 by 1 BODY\\expandafter\\l\\fi}\\l";
        run(loop.replace("N", "997").replace("BODY", "\\csname n\\number\\count2\\endcsname"), 0);
        run(loop.replace("N", "999").replace("BODY", "\\csname n\\number\\count2\\endcsname"), 200001);
        run("\\def\\a#1{}\\a{" + "x".repeat(9998) + "}", 0);
        run("\\def\\a#1{}\\a{" + "x".repeat(9999) + "}", 200001);
        run("\\def\\a#1.{}\\a " + "x".repeat(9999) + ".", 0);
        run("\\def\\a#1.{}\\a " + "x".repeat(10000) + ".", 200001);
        run("\\def\\a{" + "x".repeat(9999) + "}", 0);
        run("\\def\\a{" + "x".repeat(10000) + "}", 200001);
        run("\\def\\a#1{#1#1#1#1#1#1#1#1#1#1}\\a{" + "\\relax".repeat(1000) + "}", 0);
        run("\\def\\a#1{#1#1#1#1#1#1#1#1#1#1}\\a{" + "\\relax".repeat(1001) + "}", 200001);
        run("\\def\\a#1{#1#1#1#1#1#1#1#1#1#1}\\a{" + "\\relax".repeat(2000) + "}", 200001);
        run("\\def\\a#1{#1#1#1#1#1#1#1#1#1#1}\\expandafter\\relax\\a{" + "\\relax".repeat(1000) + "}", 200001);
        run("\\def\\a#1{#1#1#1#1#1#1#1#1#1#1}\\expandafter\\relax\\a{" + "\\relax".repeat(999) + "}", 0);
        run(loop.replace("N", "99").replace("BODY", "\\font\\x=0 at\\count2sp "), 0);
        run(loop.replace("N", "100").replace("BODY", "\\font\\x=0 at\\count2sp "), 200001);
    }
}
