/** The boundaries of numbers, dimensions, glue, what is set, and the groups that bring it back. */
public final class ValueBoundsTest {
    private static final int MOST = 2147483647;
    private static final int SIZE = 1073741823;

    public static void main(String[] args) {
        numbers();
        characterNumbers();
        values();
        registers();
        apart();
        keywords();
        factors();
        units();
        largeDimensions();
        rounding();
        glue();
        stretches();
        counters();
        lengths();
        glueSums();
        whatIsComputed();
        equals();
        lets();
        fonts();
        globals();
        groups();
        mostGroups();
        boxRegisters();
        House.close();
    }

    private static void run(String source, int answer) {
        House.dueRun(source, answer);
    }

    private static void count(String source, int value) {
        House.dueCount(source, value);
    }

    private static void dimen(String dimension, int value) {
        count("\\dimen1=" + dimension + "\\relax\\count1=\\dimen1 ", value);
    }

    private static void badDimen(String dimension, int fault) {
        run("\\dimen1=" + dimension, fault * 100000 + 1);
    }

    /** The width, stretch, order and shrink of glue, seen in boxes that stretch and shrink by it. */
    private static void glueIs(String glue, int width, int stretch, int order, int shrink) {
        String[] fils = {"sp", "fil", "fill", "filll"};
        String unit = order == 0 ? "sp" : fils[order];
        // Both glues give the same share if their stretch is the same, and of the same order.
        String source = "\\skip1=" + glue + "\\relax\\skip2=" + width + "sp plus";
        String amount = order == 0 ? String.valueOf(stretch) : stretch / 65536 + "." + "0000";
        source += amount + unit + " minus" + shrink + "sp\\relax\\count1=0\\ifdim\\skip1=\\skip2 1\\fi\\relax"
            + "\\hbox spread100pt{\\hskip\\skip1 \\vrule height1pt\\hskip\\skip2}"
            + "\\hbox spread-1pt{\\hskip0pt\\hskip\\skip1 \\vrule height1pt\\hskip\\skip2}";
        House h = House.ran(source, 0);
        House.due(source + " (width)", h.house.count(1), 1);
        String[] marks = h.pages().get(0).split(" ");
        double first = Double.parseDouble(marks[1]);
        double second = Double.parseDouble(marks[6]);
        double wide = width / 65536.0;
        House.due(source + " (stretch)", first == wide + (stretch == 0 ? 0 : 50) ? 1 : 0, 1);
        House.due(source + " (shrink)", second == wide - (shrink == 0 ? 0 : 0.5) ? 1 : 0, 1);
    }

    private static void numbers() {
        count("\\count1=2147483647", MOST);
        count("\\count1=-2147483647", -MOST);
        count("\\count1=00000000000000000000000012", 12);
        run("\\count1=2147483648", 700001);
        run("\\count1=-2147483648", 700001);
        run("\\count1=9999999999", 700001);
        // At the digit that makes it so: what follows is not read.
        run("\\count1=2147483648\u007f", 700001);
        run("\\count1=214748364\n8", 0);
        run("\\count1=2147483647\u007f", 100001);
        run("\\count1=21474836480\\fi", 700001);
        count("\\count1=--5", 5);
        count("\\count1=---5", -5);
        count("\\count1= + - + 5", -5);
        count("\\count1=-0", 0);
        count("\\def\\m{-}\\count1=\\m\\m\\m 5", -5);
        // One space behind the digits is dropped, another token is put.
        count("\\def\\a#1{\\advance\\count1 by `#1}\\count1=5 \\a x", 5 + 'x');
        count("\\count1=5\\advance\\count1 by 1 ", 6);
        House.due("two spaces in a line: one stays", House.ran("\\hbox{\\count1=5\\ifnum1=1 \\fi\\space}", 1100001)
            .house.about(2), 0);
        // The characters beside the digits are none.
        count("\\count1=1:", 1);
        count("\\count1=1/", 1);
        run("\\count1=:", 600001);
        run("\\count1=/", 600001);
        run("\\count1=a", 600001);
        run("\\count1=.5", 600001);
        run("\\count1={5}", 600001);
        run("\\count1=\\relax5", 600001);
        run("\\count1=\\u", 600001);
        run("\\count1=\\f", 600001);
        run("\\count1=\\font", 600001);
        run("\\catcode`5=11 \\count1=5", 600001);
        run("\\catcode`-=11 \\count1=-5", 600001);
        run("\\count1=%", 900001);
        run("\\count1=-%", 900001);
        run("\\count1=", 900001);
        run("\\count1=5%", 0);
        run("\\count1=5", 0);
    }

    private static void characterNumbers() {
        count("\\count1=`a", 'a');
        count("\\count1=`\\a", 'a');
        count("\\count1=`\\ \\relax", 32);
        count("\\count1=`{", '{');
        count("\\count1=`~", '~');
        count("\\count1=`\u00ff", 255);
        count("\\catcode0=12 \\count1=`\0", 0);
        count("\\count1=-`a", -'a');
        count("\\def\\a{}\\count1=1\\ifnum`\\a=97 1\\fi\\relax", 11);
        count("\\catcode`!=13 \\def!{}\\count1=`!", '!');
        count("\\def\\b{}\\edef\\a{\\count1=`\\noexpand\\b}\\a", 'b');
        count("\\expandafter\\count\\expandafter1\\expandafter=\\expandafter`\\noexpand\\%", '%');
        run("\\count1=`\\ab", 600001);
        run("\\count1=`\\relax", 600001);
        run("\\catcode13=0 \\count1=`\n", 600001);
        run("\\count1=`%", 900001);
        run("\\count1=`a%", 0);
        // One space behind it, got expanded, is dropped.
        count("\\def\\a{ }\\count1=`a\\a5", 'a');
        count("\\count1=`1", '1');
        count("\\count1=`12", '1');
    }

    private static void values() {
        count("\\count255=9 \\count1=\\count255 ", 9);
        run("\\count1=\\count256 ", 700001);
        run("\\count1=\\count-1 ", 700001);
        count("\\count1=\\catcode255 ", 12);
        run("\\count1=\\catcode256 ", 700001);
        count("\\dimen255=-7sp\\count1=-\\dimen255 ", 7);
        run("\\count1=\\dimen256 ", 700001);
        count("\\skip255=-7sp plus1fil\\count1=\\skip255 ", -7);
        run("\\count1=\\skip256 ", 700001);
        count("\\setbox255\\hbox{ab}\\count1=\\wd255 ", 655360);
        count("\\setbox255\\hbox{ab}\\count1=\\ht255 ", 327680);
        count("\\setbox255\\hbox{g}\\count1=\\dp255 ", 163840);
        count("\\count1=5 \\count1=\\wd0 ", 0);
        run("\\count1=\\wd256 ", 700001);
        count("\\chardef\\x=255 \\count1=\\x", 255);
        count("\\chardef\\x=0 \\count1=5\\count1=\\x", 0);
        // Behind these no space is dropped.
        House.due("a space is left", House.ran("\\chardef\\x=5 \\hbox{\\count1=\\catcode`a \\count1=\\wd1 \\kern0pt}", 0)
            .house.about(3), 1);
        House.due("a space is left behind a name of a number",
            House.ran("\\chardef\\x=5 \\def\\s{ }\\hbox{\\count1=\\x\\s}", 0).house.about(3), 1);
        House.due("but not behind digits", House.ran("\\def\\s{ }\\hbox{\\count1=5\\s}", 0).house.about(3), 0);
    }

    private static void registers() {
        String[] names = {"count", "dimen", "skip"};
        String[] values = {"1", "1sp", "1sp"};
        for (int i = 0; i < 3; i++) {
            String name = "\\" + names[i];
            run(name + "0=" + values[i], 0);
            run(name + "255=" + values[i], 0);
            run(name + "256=" + values[i], 700001);
            run(name + "-1=" + values[i], 700001);
            run(name + "2147483647=" + values[i], 700001);
            run(name + " a=" + values[i], 600001);
            run("\\advance" + name + "256 by" + values[i], 700001);
            count("\\count1=5 \\count1=" + name + "255 ", 0);
        }
        for (String name : new String[] {"\\wd", "\\ht", "\\dp"}) {
            run(name + "0=1pt", 600001);
            run("\\global" + name + "0=1pt", 600001);
            run("\\advance" + name + "0 by 1pt", 600001);
            run("\\multiply" + name + "0 by 1", 600001);
            run("\\dimen1=" + name + "255 ", 0);
            run("\\dimen1=" + name + "256 ", 700001);
            run("\\dimen1=" + name + "-1 ", 700001);
        }
        run("\\setbox255\\hbox{}", 0);
        run("\\setbox256\\hbox{}", 700001);
        run("\\setbox-1\\hbox{}", 700001);
        run("\\box255 ", 0);
        run("\\box256 ", 700001);
        run("\\copy255 ", 0);
        run("\\copy256 ", 700001);
        run("\\copy-1 ", 700001);
        run("\\char255 ", 1400001);
        run("\\char256 ", 700001);
        run("\\char-1 ", 700001);
        run("\\chardef\\x=255 ", 0);
        run("\\chardef\\x=256 ", 700001);
        run("\\chardef\\x=-1 ", 700001);
    }

    /** Each quantity is another one. */
    private static void apart() {
        String[] counters = {"pretolerance", "tolerance", "linepenalty", "hyphenpenalty", "exhyphenpenalty", "clubpenalty",
            "widowpenalty", "brokenpenalty", "interlinepenalty", "adjdemerits", "doublehyphendemerits", "finalhyphendemerits",
            "looseness"};
        String[] lengths = {"hsize", "vsize", "parindent", "lineskiplimit", "maxdepth", "emergencystretch"};
        String[] glue = {"parskip", "baselineskip", "lineskip", "topskip", "leftskip", "rightskip", "parfillskip"};
        StringBuilder set = new StringBuilder();
        StringBuilder look = new StringBuilder();
        int value = 1000;
        for (int i = 0; i < 256 + counters.length; i++) {
            String name = i < 256 ? "\\count" + i : "\\" + counters[i - 256];
            set.append(name).append("=").append(++value).append(" ");
            look.append("\\T").append(name).append("=").append(value).append(" ");
        }
        for (int i = 0; i < 256 + lengths.length; i++) {
            String name = i < 256 ? "\\dimen" + i : "\\" + lengths[i - 256];
            set.append(name).append("=").append(++value).append("sp");
            look.append("\\T").append(name).append("=").append(value).append(" ");
        }
        for (int i = 0; i < 256 + glue.length; i++) {
            String name = i < 256 ? "\\skip" + i : "\\" + glue[i - 256];
            set.append(name).append("=").append(++value).append("sp plus9fil minus8sp");
            look.append("\\T").append(name).append("=").append(value).append(" ");
        }
        String test = "\\def\\T{\\F\\ifnum}\\def\\F#1 {#1 \\else\\u\\fi}";
        run(test + set + "\\relax" + look, 0);
        run(test + set + "\\catcode0=12 \\catcode255=13 \\setbox0\\hbox{}\\setbox255\\hbox{}\\def~{}" + look, 0);
        run(test + "{" + set + "}" + "\\T\\count255=0 \\T\\dimen0=0 \\T\\skip255=0 \\T\\hsize=26214400 \\T\\looseness=0 "
            + "\\T\\parfillskip=0 \\T\\parskip=0 \\T\\emergencystretch=0 \\T\\pretolerance=100 \\T\\count0=0 ", 0);
    }

    private static void keywords() {
        dimen("1PT", 65536);
        dimen("1pT", 65536);
        dimen("1   Pt", 65536);
        dimen("1p\\ifnum1=1 t\\fi", 65536);
        badDimen("1p t", 6);
        badDimen("1p\\relax t", 6);
        badDimen("1\\let\\x=p\\x t", 6);
        count("\\let\\x=p\\dimen1=1pt\\count1=\\dimen1 ", 65536);
        count("\\catcode`p=12 \\catcode`T=3 \\dimen1=1pT\\count1=\\dimen1 ", 65536);
        run("\\catcode`p=13 \\dimen1=1pt", 600001);
        // What is none of a keyword is put again, and what was before it.
        count("\\def\\a#1#2{\\count1=`#2}\\skip1=1pt\\a plx", 'l');
        House.due("p and l are printed", House.ran("\\hbox{\\skip1=1pt plx}", 0).house.about(3), 3);
        House.due("at the end of the source too", House.ran("\\setbox1\\hbox{}\\skip1=1pt pl%", 0).house.about(4), 1);
        House.due("w, i and d", House.ran("\\noindent\\vrule height1pt wid%", 0).house.about(3), 7);
        House.due("spaces before a keyword are gone", House.ran("\\hbox{\\skip1=1pt  \\kern0pt}", 0).house.about(3), 1);
        dimen("1pt\\relax", 65536);
        run("\\dimen1=1p%", 600001);
        run("\\dimen1=1%", 900001);
    }

    private static void factors() {
        dimen("1.5pt", 98304);
        dimen("1,5pt", 98304);
        dimen(".5pt", 32768);
        dimen(",5pt", 32768);
        dimen("1.pt", 65536);
        dimen(".pt", 0);
        dimen(",pt", 0);
        dimen("0.0001pt", 7);
        dimen("0.9999pt", 65529);
        dimen("1.0000pt", 65536);
        badDimen("0.00001pt", 7);
        badDimen("0.00000pt", 7);
        badDimen("1.00000\u007f", 7);
        badDimen("..5pt", 6);
        badDimen("1.5.5pt", 6);
        badDimen("1 .5pt", 6);
        badDimen("a", 6);
        badDimen("\\relax", 6);
        badDimen("\\f", 6);
        badDimen("2147483648sp", 7);
        badDimen("2147483648\u007f", 7);
        badDimen("2147483647.00000", 7);
        badDimen("2147483647xx", 6);
        badDimen("2147483648xx", 7);
        badDimen("2147483647.9999xx", 6);
        // Or what a number may be that has no digits.
        dimen("`\\%sp", 37);
        dimen("`\\% sp", 37);
        dimen("`\\%  sp", 37);
        count("\\chardef\\x=7 \\dimen1=\\x pt\\count1=\\dimen1 ", 7 * 65536);
        count("\\count2=-7 \\dimen1=\\count2 pt\\count1=\\dimen1 ", -7 * 65536);
        count("\\count2=-7 \\dimen1=-\\count2pt\\count1=\\dimen1 ", 7 * 65536);
        dimen("\\catcode`asp", 11);
        dimen("\\tolerance sp", 200);
        badDimen("\\count256sp", 7);
        badDimen("1", 9);
        badDimen("%", 9);
        badDimen("-%", 9);
        badDimen(".%", 9);
        badDimen("1.5%", 9);
    }

    private static void units() {
        dimen("1pt", 65536);
        dimen("1pc", 786432);
        dimen("1in", 4736287);
        dimen("1bp", 65782);
        dimen("1cm", 1864680);
        dimen("1mm", 186468);
        dimen("1sp", 1);
        dimen("1em", 655360);
        dimen("1ex", 327680);
        dimen("100in", 473628672);
        dimen("72bp", 4736287);
        dimen("2.54cm", 4736287);
        dimen("25.4mm", 4736287);
        badDimen("1dd", 6);
        badDimen("1fil", 6);
        badDimen("1p", 6);
        badDimen("1 ", 9);
        badDimen("1\\relax", 6);
        badDimen("1{", 6);
        dimen("2\\hsize", 52428800);
        dimen("2\\baselineskip", 1572864);
        dimen("2\\wd7 ", 0);
        badDimen("2\\count1 ", 6);
        count("\\dimen3=-3sp\\dimen1=-1.5\\dimen3\\count1=\\dimen1 ", 5);
        // One space behind a keyword is dropped, none behind a quantity.
        House.due("a space", House.ran("\\def\\s{ }\\hbox{\\dimen1=1pt\\s}", 0).house.about(3), 0);
        House.due("two spaces", House.ran("\\def\\s{ }\\hbox{\\dimen1=1pt\\s\\s}", 0).house.about(3), 1);
        House.due("behind a length", House.ran("\\def\\s{ }\\hbox{\\dimen1=2\\hsize\\s}", 0).house.about(3), 1);
        House.due("behind a length alone", House.ran("\\def\\s{ }\\hbox{\\dimen1=\\hsize\\s}", 0).house.about(3), 1);
        House none = new House();
        House.due("without a font", none.run("\\dimen1=5em\\dimen2=5ex\\count1=1 \\advance\\count1\\dimen1 "
            + "\\advance\\count1\\dimen2 "), 0);
        House.due("em and ex are 0", none.house.count(1), 1);
        for (int n = 4; n <= 6; n++) {
            Metrics m = new Metrics().plain();
            m.parameters.subList(n, 6).clear();
            House h = new House();
            h.give(0, m.bytes());
            House.due("parameters: " + n, h.run("\\font\\f=0 \\f\\dimen1=1em\\dimen2=1ex\\count1=\\dimen1 \\count2=\\dimen2 "), 0);
            House.due("em with so many parameters", h.house.count(1), n < 6 ? 0 : 655360);
            House.due("ex with so many parameters", h.house.count(2), n < 5 ? 0 : 327680);
        }
    }

    private static void largeDimensions() {
        dimen("1073741823sp", SIZE);
        dimen("-1073741823sp", -SIZE);
        badDimen("1073741824sp", 7);
        badDimen("-1073741824sp", 7);
        badDimen("2147483647sp", 7);
        dimen("16383.9999pt", 1073741817);
        badDimen("16384pt", 7);
        dimen("32767sp", 32767);
        dimen("32768sp", 32768);
        badDimen("32768pt", 7);
        dimen("32767.9999\\wd1 ", 0);
        badDimen("32768\\wd1 ", 7);
        badDimen("32768.0000\\dimen2 ", 7);
        badDimen("32768em", 7);
        run("\\count2=32767 \\dimen2=1sp\\dimen1=\\count2\\dimen2 ", 0);
        run("\\count2=32768 \\dimen2=1sp\\dimen1=\\count2\\dimen2 ", 700001);
        count("\\count2=-32768 \\dimen2=1sp\\dimen1=\\count2\\dimen2\\count1=\\dimen1 ", -32768);
        count("\\count2=-1073741823 \\dimen2=1sp\\dimen1=-\\count2\\dimen2\\count1=\\dimen1 ", SIZE);
        run("\\count2=-1073741824 \\dimen2=1sp\\dimen1=\\count2\\dimen2 ", 700001);
        run("\\count2=-2147483647 \\dimen1=\\count2\\hsize", 700001);
        run("\\count2=-2147483647 \\dimen1=\\count2in", 700001);
        run("\\count2=-2147483647 \\font\\g=0 at 134217727sp \\g\\dimen1=\\count2em", 700001);
        // The unit is read first, with its space: its faults come before that of the factor.
        badDimen("40000", 9);
        badDimen("40000xx", 6);
        badDimen("40000\\count1", 6);
        badDimen("40000\\dimen256 ", 7);
        badDimen("40000pt\u007f", 1);
        run("\\hsize=16383.9999pt", 0);
        run("\\hsize=-16383.9999pt", 0);
    }

    private static void rounding() {
        String two = "\\dimen2=1sp\\dimen1=";
        count(two + ".5\\dimen2\\count1=\\dimen1 ", 1);
        count(two + ".4999\\dimen2\\count1=\\dimen1 ", 0);
        count(two + "-.5\\dimen2\\count1=\\dimen1 ", -1);
        count(two + "-.4999\\dimen2\\count1=\\dimen1 ", 0);
        count(two + "1.5\\dimen2\\count1=\\dimen1 ", 2);
        count("\\dimen2=-1sp\\dimen1=.5\\dimen2\\count1=\\dimen1 ", -1);
        count("\\dimen2=-1sp\\dimen1=-.5\\dimen2\\count1=\\dimen1 ", 1);
        dimen(".5sp", 1);
        dimen(".4999sp", 0);
        dimen("1073741823.4999sp", SIZE);
        badDimen("1073741823.5sp", 7);
        dimen(".0001in", 474);
        dimen(".0001sp", 0);
    }

    private static void glue() {
        glueIs("65536sp", 65536, 0, 0, 0);
        glueIs("65536sp plus 65536sp", 65536, 65536, 0, 0);
        glueIs("65536sp minus 65536sp", 65536, 0, 0, 65536);
        glueIs("1pt plus1fil minus1pt", 65536, 65536, 1, 65536);
        glueIs("1pt PLUS 1FILL MINUS 1PT", 65536, 65536, 2, 65536);
        glueIs("-1pt plus1filll", -65536, 65536, 3, 0);
        glueIs("1pt plus 1fil l l", 65536, 65536, 3, 0);
        glueIs("1pt plus0fil", 65536, 0, 0, 0);
        glueIs("\\hsize plus1pt", 26214400, 65536, 0, 0);
        glueIs("\\parfillskip", 0, 65536, 1, 0);
        glueIs("--\\parfillskip", 0, 65536, 1, 0);
        glueIs("-\\baselineskip", -786432, 0, 0, 0);
        run("\\skip1=-\\parfillskip", 700001);
        run("\\skip2=1pt minus1sp\\skip1=-\\skip2", 700001);
        run("\\skip2=1pt plus1sp\\skip1=-\\skip2", 700001);
        count("\\skip2=1pt\\skip1=-\\skip2\\count1=\\skip1 ", -65536);
        // What means glue has no plus or minus behind it.
        House.due("all of plus1pt", House.ran("\\hbox{\\skip1=\\skip2 plus1pt}", 0).house.about(3), 7);
        run("\\skip1=1pt minus 1fil", 600001);
        run("\\skip1=1pt minus 1pt plus 1pt", 0);
        run("\\skip1=16384pt", 700001);
        run("\\skip1=1pt plus16384pt", 700001);
        run("\\skip1=1pt minus16384pt", 700001);
        run("\\skip1=1pt plus16383.9999pt minus16383.9999pt", 0);
        run("\\skip1=%", 900001);
        run("\\skip1=1pt plus%", 900001);
        run("\\skip1=1pt minus%", 900001);
        run("\\skip1=1pt minus1%", 900001);
        run("\\skip1=1pt%", 0);
        run("\\skip1=1pt plus1fil%", 0);
        run("\\skip1=1pt minus1pt%", 0);
        run("\\skip1=a", 600001);
    }

    private static void stretches() {
        run("\\skip1=1pt plus16383.9999fil", 0);
        run("\\skip1=1pt plus16384fil", 700001);
        run("\\skip1=1pt plus16384filll", 700001);
        run("\\skip1=1pt plus-1pt", 700001);
        run("\\skip1=1pt plus-1sp", 700001);
        run("\\skip1=1pt plus-0pt", 0);
        run("\\skip1=1pt plus-1fil", 700001);
        run("\\skip1=1pt plus-.0000fil", 0);
        run("\\skip1=1pt minus-1pt", 700001);
        run("\\skip1=1pt minus-0pt", 0);
        run("\\count2=-16384 \\skip1=1pt plus\\count2fil", 700001);
        run("\\count2=-16384 \\skip1=1pt plus-\\count2fil", 700001);
        run("\\count2=-16383 \\skip1=1pt plus-\\count2fil", 0);
        run("\\skip1=1pt plus\\hsize minus\\hsize", 0);
        run("\\skip1=1pt plus-\\hsize", 700001);
        run("\\skip1=1pt plus\\parfillskip", 0);
        run("\\skip1=1pt plus1fi", 600001);
        // A fourth order is none: the l is printed.
        House.due("one l too many", House.ran("\\hbox{\\skip1=1pt plus1fillll}", 0).house.about(3), 1);
        House.due("one space is dropped", House.ran("\\def\\s{ }\\hbox{\\skip1=1pt plus1filll\\s}", 0).house.about(3), 0);
        House.due("another one is not", House.ran("\\def\\s{ }\\hbox{\\skip1=1pt plus1filll\\s\\char97 }", 0).house.about(3), 1);
    }

    private static void counters() {
        count("\\count1=2147483646 \\advance\\count1 by 1 ", MOST);
        run("\\count1=2147483647 \\advance\\count1 by 1 ", 700001);
        count("\\count1=-2147483646 \\advance\\count1 by -1 ", -MOST);
        run("\\count1=-2147483647 \\advance\\count1 by -1 ", 700001);
        run("\\count1=2147483647 \\advance\\count1\\count1 ", 700001);
        count("\\count1=-2147483647 \\multiply\\count1 by -1 ", MOST);
        run("\\count1=1073741824 \\multiply\\count1 by 2 ", 700001);
        count("\\count1=1073741823 \\multiply\\count1 by 2 ", 2147483646);
        run("\\count1=65536 \\multiply\\count1 by 65536 ", 700001);
        run("\\count1=2147483647 \\multiply\\count1 by 2147483647 ", 700001);
        count("\\count1=-7 \\divide\\count1 by 2 ", -3);
        count("\\count1=7 \\divide\\count1 by -2 ", -3);
        count("\\count1=-7 \\divide\\count1 by -2 ", 3);
        count("\\count1=-2147483647 \\divide\\count1 by -1 ", MOST);
        run("\\divide\\count1 by 0 ", 700001);
        run("\\count1=5 \\divide\\count1 by 0 ", 700001);
        count("\\tolerance=-2147483647 \\count1=\\tolerance", -MOST);
        count("\\advance\\looseness by 5 \\count1=\\looseness", 5);
    }

    private static void lengths() {
        count("\\dimen1=1073741822sp\\advance\\dimen1 by 1sp\\count1=\\dimen1 ", SIZE);
        run("\\dimen1=1073741823sp\\advance\\dimen1 by 1sp", 700001);
        count("\\dimen1=-1073741822sp\\advance\\dimen1 by -1sp\\count1=\\dimen1 ", -SIZE);
        run("\\dimen1=-1073741823sp\\advance\\dimen1 by -1sp", 700001);
        run("\\dimen1=536870912sp\\multiply\\dimen1 by 2 ", 700001);
        count("\\dimen1=-536870911sp\\multiply\\dimen1 by -2 \\count1=\\dimen1 ", 1073741822);
        count("\\dimen1=-7sp\\divide\\dimen1 by 2 \\count1=\\dimen1 ", -3);
        run("\\divide\\dimen1 by 0 ", 700001);
        run("\\multiply\\dimen1 by 2pt", 0);
        run("\\advance\\dimen1 by 2 ", 900001);
        for (String length : new String[] {"hsize", "vsize", "parindent", "lineskiplimit", "maxdepth", "emergencystretch", "dimen0"}) {
            House.due(length + " has no stretch", House.ran("\\hbox{\\" + length + "=1pt plus1pt}", 0).house.about(3), 7);
        }
        run("\\advance\\hsize by -\\hsize\\ifdim\\hsize=0pt\\else\\u\\fi", 0);
    }

    private static void glueSums() {
        String one = "\\skip1=1pt plus1pt minus1pt";
        run(one + "\\advance\\skip1 by -1pt plus 16382.9999pt minus16382.9999pt", 0);
        count("\\skip1=1sp\\advance\\skip1 by 2sp\\count1=\\skip1 ", 3);
        count("\\skip1=1sp\\advance\\skip1 by -2sp\\count1=\\skip1 ", -1);
        run(one + "\\advance\\skip1 by 0pt plus 16383.9999pt", 700001);
        run(one + "\\advance\\skip1 by 0pt minus 16383.9999pt", 700001);
        run(one + "\\advance\\skip1 by 16383.9999pt", 700001);
        run(one + "\\advance\\skip1 by -16383.9999pt", 0);
        // Of stretches with other orders the greater one is taken, whatever the sum would be.
        run("\\skip1=0pt plus16383.9999pt\\advance\\skip1 by 0pt plus16383.9999fil", 0);
        run("\\skip1=0pt plus16383.9999fill\\advance\\skip1 by 0pt plus16383.9999fil", 0);
        run("\\skip1=0pt plus16383.9999fill\\advance\\skip1 by 0pt plus16383.9999fill", 700001);
        run(one + "\\multiply\\skip1 by 16383 ", 0);
        run(one + "\\multiply\\skip1 by 16384 ", 700001);
        run(one + "\\multiply\\skip1 by -1 ", 700001);
        run("\\skip1=1pt minus1sp\\multiply\\skip1 by -1 ", 700001);
        run("\\skip1=1pt plus1sp\\multiply\\skip1 by -1 ", 700001);
        count("\\skip1=1pt\\multiply\\skip1 by -1 \\count1=\\skip1 ", -65536);
        run("\\skip1=1pt plus2sp\\divide\\skip1 by -2 ", 700001);
        run("\\skip1=1pt plus1sp minus1sp\\divide\\skip1 by -2 ", 0);
        run("\\divide\\skip1 by 0 ", 700001);
        // A stretch of 0 has order 0: an order 1 that is divided away leaves that of order 0 alone.
        String gone = "\\skip1=0pt plus1fill\\divide\\skip1 by 65537 \\advance\\skip1 by 0pt plus1pt\\relax";
        House.duePages(gone + "\\hbox to20pt{\\hskip0pt plus1pt\\vrule height1pt width0.5pt\\hskip\\skip1}",
            "rule 9.75 10 0.5 1");
        String bare = "\\skip1=0pt\\advance\\skip1 by 0pt plus1pt\\relax";
        House.duePages(bare + "\\hbox to20pt{\\hskip0pt plus1pt\\vrule height1pt width0.5pt\\hskip\\skip1}",
            "rule 9.75 10 0.5 1");
        // A stretch that is a length, or glue, is of order 0.
        for (String length : new String[] {"\\hsize", "\\parfillskip", "\\baselineskip"}) {
            String stretch = "\\parfillskip1pt plus1fil\\skip1=0pt plus1fill\\skip1=\\wd9 plus" + length + "\\relax";
            House.duePages(stretch + "\\hbox to20pt{\\hskip\\skip1 \\vrule height1pt width0.5pt\\hfil}", "rule 0 10 0.5 1");
        }
        String none = "\\skip1=0pt plus0filll\\advance\\skip1 by 0pt plus1pt\\relax";
        House.duePages(none + "\\hbox to20pt{\\hskip0pt plus1pt\\vrule height1pt width0.5pt\\hskip\\skip1}",
            "rule 9.75 10 0.5 1");
    }

    private static void whatIsComputed() {
        for (String p : new String[] {"advance", "multiply", "divide"}) {
            for (String none : new String[] {"a", "1", "\\relax", "\\u", "\\f", "\\catcode1", "\\wd1", "\\hbox", "\\advance"}) {
                run("\\" + p + (none.equals("a") ? " " : "") + none, 600001);
            }
            run("\\chardef\\x=5 \\" + p + "\\x by 1", 600001);
            run("\\" + p + "\\count1%", 900001);
            run("\\" + p + "\\count1 by%", 900001);
            run("\\" + p + "  \\count1 1 ", 0);
            run("\\" + p + "\\count1BY1 ", 0);
            run("\\" + p + "\\count1 b1 ", 600001);
            run("\\global\\" + p + "\\count1by1 ", 0);
        }
    }

    private static void equals() {
        count("\\count1 5 ", 5);
        count("\\count1=5 ", 5);
        count("\\count1   =   5 ", 5);
        run("\\count1==5 ", 600001);
        run("\\catcode`==11 \\count1=5 ", 600001);
        run("\\let\\x==\\count1\\x5 ", 600001);
        count("\\def\\x{=}\\count1\\x5 ", 5);
        run("\\chardef\\x==5 ", 600001);
        run("\\setbox1==\\hbox{}", 600001);
        run("\\font\\x==0 ", 600001);
        run("\\catcode1==5 ", 600001);
        run("\\hsize==5pt", 600001);
    }

    private static void lets() {
        run("\\let a=b", 600001);
        run("\\let=b", 600001);
        run("\\let  \\x=b\\x", 0);
        count("\\let\\x==\\count1=\\ifx\\x=1\\else2\\fi\\relax", 1);
        count("\\let\\x= 1\\count1=\\ifx\\x11\\else2\\fi\\relax", 1);
        count("\\def\\s{\\let\\x= }\\s  1\\count1=\\ifx\\x11\\else2\\fi\\relax", 1);
        // Behind = one space is dropped, and no more: the second one is what it means.
        count("\\def\\s{ }\\def\\a#1{\\let\\x=#1#1}\\a{ }\\count1=1\\ifcat\\x\\s2\\fi\\relax", 12);
        run("\\let\\x=\\u\\x", 1100001);
        count("\\let\\x\\count\\x1=7 ", 7);
        run("\\let\\x={\\x}", 0);
        run("\\let\\x%", 900001);
        run("\\let\\x=%", 900001);
        run("\\let%", 900001);
        count("{\\let\\x=\\count}\\let\\x=\\relax{\\global\\let\\x=\\count}\\x1=5 ", 5);
        run("{\\let\\x=\\relax}\\x", 1100001);
        count("\\let~=\\count~1=9 ", 9);
        run("\\let\\relax=\\u\\relax", 1100001);
        run("\\def\\expandafter{\\u}\\expandafter", 1100001);
        run("\\let\\global=\\u\\global", 1100001);
        run("\\chardef a=5 ", 600001);
        run("{\\chardef\\x=65 }\\x", 1100001);
    }

    private static void fonts() {
        run("\\font\\x=0 ", 0);
        run("\\font\\x=15 ", 1400001);
        run("\\font\\x=16 ", 700001);
        run("\\font\\x=-1 ", 700001);
        run("\\font\\x=0 at1sp", 0);
        run("\\font\\x=0 at0sp", 700001);
        run("\\font\\x=0 at-1sp", 700001);
        run("\\font\\x=0 at134217727sp", 0);
        run("\\font\\x=0 at134217728sp", 700001);
        run("\\font\\x=1 at0sp", 1400001);
        run("\\font\\x=0 at", 900001);
        run("\\font\\x=0 AT 5PT", 0);
        run("\\font x=0", 600001);
        run("{\\font\\x=0 }\\x", 1100001);
        run("{\\global\\font\\x=0 }\\x", 0);
        StringBuilder many = new StringBuilder();
        for (int i = 1; i <= 99; i++) {
            many.append("\\font\\x=0 at").append(i).append("sp ");
        }
        run(many + "\\font\\y=0 at10pt\\font\\y=0 at5sp", 0);
        run(many + "\\font\\y=0 at100sp", 200001);
        run(many + "\\font\\y=0 at0sp", 700001);
        run(many + "\\font\\y=1 at100sp", 1400001);
        // No font at first; it is set like a meaning.
        House h = House.withFont();
        House.due("no font", h.run("a"), 1400001);
        House.due("no font behind a group", h.run("\\font\\f=0 {\\f a}a"), 1400001);
        House.due("no font in the next run", h.run("\\f"), 1100001);
    }

    private static void globals() {
        for (String none : new String[] {"\\hbox{}", "a", "\\f", "\\wd1", "\\u", "\\par", "\\char97 ", "\\begingroup", "{",
            "\\kern1pt", "\\box1", "\\end", "\\csname x\\endcsname\\hbox{}"}) {
            run("\\global" + (none.equals("a") ? " a" : none), 600001);
        }
        for (String one : new String[] {"\\def\\x{}", "\\edef\\x{}", "\\gdef\\x{}", "\\xdef\\x{}", "\\let\\x=a",
            "\\chardef\\x=1 ", "\\font\\x=0 ", "\\catcode1=1 ", "\\count1=1 ", "\\dimen1=1pt", "\\skip1=1pt",
            "\\hsize=1pt", "\\parskip=1pt", "\\tolerance=1 ", "\\advance\\count1 1 ", "\\multiply\\count1 1 ",
            "\\divide\\count1 1 ", "\\setbox1=\\hbox{}", "\\global\\count1=1 ", "\\relax\\relax \\global  \\count1=1 "}) {
            run("\\global" + one, 0);
            run("\\global\\relax " + one, 0);
        }
        run("\\global%", 900001);
        run("\\global\\relax%", 900001);
        count("{{\\global\\count1=5 }\\count1=6 }", 5);
        count("{{\\global\\skip1=5sp plus1fil}\\skip1=6sp}\\count1=\\skip1 ", 5);
        count("{{\\global\\multiply\\count1 by 2 \\global\\advance\\count1 by 3 }}", 3);
    }

    private static void groups() {
        run("}", 1300001);
        run("\\endgroup", 1300001);
        run("{\\endgroup", 1300001);
        run("\\begingroup}", 1300001);
        run("\\hbox{\\endgroup}", 1300001);
        run("\\hbox{\\begingroup}", 1300001);
        run("\\hbox{{}}}", 1300001);
        run("{}\n}", 1300002);
        run("\\hbox\\begingroup", 600001);
        run("\\let\\x={\\let\\y=}\\x}{\\y\\hbox\\x}\\hbox{\\y", 0);
        run("{", 900001);
        run("\\begingroup", 900001);
        run("\\hbox{", 900001);
        run("a{\n\n", 900002);
        run("{\\iftrue}\\fi", 0);
        // What was set globally last is there behind the group.
        count("{\\count1=1 \\global\\count1=2 \\count1=3 \\global\\count1=4 \\count1=5 }", 4);
        count("\\count1=9 {\\count1=1 {\\count1=2 {\\global\\count1=3 \\count1=4 }\\count1=5 }\\count1=6 }", 3);
        count("\\count1=9 {\\count1=1 {\\count1=2 }}", 9);
        count("\\count1=9 {{\\count1=1 \\count1=2 }}", 9);
        count("\\hsize=9sp{\\hsize=8sp}\\count1=\\hsize", 9);
        count("\\parskip=9sp{\\parskip=8sp}\\count1=\\parskip", 9);
        run("{\\def~{}}~", 1100001);
        count("\\def\\x{\\count1=1 }{\\def\\x{\\count1=2 }}\\x", 1);
        // Behind a run groups that are open are no more, also behind a fault.
        House h = new House();
        House.due("a fault", h.run("\\count1=1 {\\count1=2 {\\count1=3 \\global\\count2=4 \\count2=5 \\u"), 1100001);
        House.due("outside of all groups", h.house.count(1), 1);
        House.due("outside of all groups", h.house.count(2), 4);
    }

    private static void mostGroups() {
        // 99 groups with 40 counters each that are set in all of them.
        StringBuilder all = new StringBuilder("\\def\\s{");
        for (int i = 1; i <= 40; i++) {
            all.append("\\advance\\count").append(i).append(" by ").append(i).append(" ");
        }
        all.append("}\\s");
        count(all + "{\\s".repeat(99) + "}".repeat(99), 1);
        House deep = House.ran(all + "{\\s".repeat(99) + "}".repeat(60) + "\\global\\count41=\\count40 " + "}".repeat(39), 0);
        House.due("counter 40 within 39 groups", deep.house.count(41), 40 * 40);
        House.due("counter 40 outside", deep.house.count(40), 40);
        House left = House.ran(all + "{\\s".repeat(99), 900001);
        House.due("counter 40 outside of all groups", left.house.count(40), 40);
        run("{".repeat(100) + "}".repeat(100), 0);
        run("{".repeat(101), 200001);
        run("\\begingroup".repeat(100) + "\\endgroup".repeat(100), 0);
        run("\\begingroup".repeat(101), 200001);
        run("{".repeat(99) + "\\hbox{}" + "}".repeat(99), 0);
        run("{".repeat(100) + "\\hbox{}", 200001);
        run("{".repeat(50) + "\\begingroup".repeat(50) + "{", 200001);
        run("{}".repeat(300), 0);
    }

    private static void boxRegisters() {
        count("\\setbox1\\hbox{a}{\\setbox1\\hbox{aa}}\\count1=\\wd1 ", 327680);
        count("\\setbox1\\hbox{a}{\\box1}\\count1=\\wd1 ", 0);
        count("\\setbox1\\hbox{a}{\\copy1}\\count1=\\wd1 ", 327680);
        count("\\setbox1\\hbox{a}{\\setbox1\\hbox{aa}\\box1}\\count1=\\wd1 ", 327680);
        count("\\setbox1\\hbox{a}{\\setbox1\\hbox{aa}\\box1\\global\\setbox1\\hbox{aaa}}\\count1=\\wd1 ", 983040);
        count("{\\global\\setbox1\\hbox{a}\\box1}\\count1=\\wd1 ", 0);
        count("\\setbox1\\hbox{a}\\setbox1\\box1\\count1=\\wd1 ", 327680);
        count("\\setbox1\\hbox{a}\\setbox1\\copy2\\count1=\\wd1 ", 0);
        count("\\setbox1\\hbox{a}{\\setbox1\\box2}\\count1=\\wd1 ", 327680);
        count("\\setbox1\\hbox{a}\\setbox2\\box1\\count1=\\wd1\\advance\\count1\\wd2 ", 327680);
        count("{\\setbox1\\hbox{a}{{\\setbox1\\hbox{aa}}\\box1}\\global\\count1=\\wd1 }", 0);
        // The box is set behind the group that it has.
        count("{\\setbox1\\hbox{a\\setbox1\\hbox{aa}}\\global\\count1=\\wd1 }", 327680);
        count("\\setbox1\\hbox{a\\global\\setbox1\\hbox{aa}}\\count1=\\wd1 ", 327680);
        run("\\setbox1 a", 600001);
        run("\\setbox1\\relax  \\relax\\hbox{}", 0);
        run("\\setbox1\\kern1pt", 600001);
        run("\\setbox1\\raise1pt\\hbox{}", 600001);
        run("\\hbox a", 600001);
        run("\\hbox}", 600001);
        run("\\hbox\\relax  \\relax{}", 0);
        run("\\hbox to5pt\\relax{}", 0);
        run("\\hbox to5pt spread5pt{}", 600001);
        run("\\hbox spread5pt to5pt{}", 600001);
        run("\\hbox to{}", 600001);
        run("\\hbox%", 900001);
        run("\\hbox to5pt%", 900001);
        run("\\moveright5pt\\box1 ", 0);
        run("\\moveright5pt\\relax a", 600001);
    }
}
