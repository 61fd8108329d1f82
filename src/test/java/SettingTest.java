import java.util.List;

/** Promise 4, what 18: words, paragraphs, boxes, pages and the file. Promise 8 for what they count. */
public final class SettingTest {
    public static void main(String[] args) {
        modes();
        words();
        breaking();
        passes();
        boxes();
        packedBoxes();
        rules();
        pages();
        frames();
        moves();
        faults();
        limits();
        House.close();
    }

    private static void run(String source, int answer) {
        House.dueRun(source, answer);
    }

    private static void pages(String source, String... due) {
        House.duePages(source, due);
    }

    private static void about(String source, int what, int due) {
        House.due(source + " (about " + what + ")", House.ran(source, 0).house.about(what), due);
    }

    private static void modes() {
        pages("a", "a 20 10");
        pages("\\noindent a", "a 0 10");
        pages("\\indent a", "a 20 10");
        pages("\\indent\\indent a", "a 40 10");
        pages("\\noindent\\indent a", "a 20 10");
        pages("\\hbox{\\indent a}", "a 20 10");
        pages("\\parindent-5pt a", "a -5 10");
        about("\\parindent-5pt a", 5, 1);
        pages("a\\par b", "a 20 10 b 20 22");
        pages("a\n\nb", "a 20 10 b 20 22");
        pages("a\\vskip3pt b", "a 20 10 b 20 25");
        pages("\\hskip5pt a", "a 25 10");
        pages("\\kern5pt\\hbox{a}", "a 0 10");
        pages("\\hbox{a}\\kern5pt\\hbox{b}", "a 0 10 b 0 27");
        pages("\\ a", "a 22.5 10");
        pages(" a", "a 20 10");
        pages("\\chardef\\x=98 \\x\\char99 ", "b 20 10 c 25 10");
        pages("\\hbox{a\\par b}", "a 0 10 b 5 10");
        pages("\\noindent\\par\\noindent\\par\\hbox{a}", "a 0 10");
        run("\\hbox{\\vskip1pt}", 1500001);
        run("\\hbox{\\hrule}", 1500001);
        run("\\hbox{\\vfil}", 1500001);
        run("\\raise1pt\\hbox{}", 1500001);
        run("\\lower1pt\\hbox{}", 1500001);
        run("\\hbox{\\moveleft1pt\\hbox{}}", 1500001);
        run("a\\moveright1pt\\hbox{}", 1500001);
        run("$", 1500001);
        run("&", 1500001);
        run("^", 1500001);
        run("_", 1500001);
        run("\\char200 ", 1400001);
        run("\\char256 ", 700001);
        House.due("no font", new House().run("a"), 1400001);
        House.due("no font for a space", new House().run("\\hbox{ }"), 1400001);
        House.due("no font is needed for \\-", new House().run("\\-%"), 0);
    }

    private static void words() {
        pages("\\noindent a-b", "a 0 10 - 5 10 b 10 10");
        about("\\hsize1pt\\noindent a-b", 6, 1);
        about("\\hsize1pt\\noindent a-b", 4, 2);
        about("\\hsize1pt\\hbox{a-b}", 6, 0);
        pages("\\hsize1pt\\noindent a\\-b", "a 0 10 - 5 10 b 0 22");
        pages("\\hsize1pt\\hbox{a\\-b}", "a 0 10 b 5 10");
        pages("\\hsize1pt\\noindent a-b", "a 0 10 - 5 10 b 0 22");
        about("\\hsize1pt\\noindent a-b", 3, 8);
        // A kern that a hyphen replaces goes with the line that breaks there.
        Metrics m = new Metrics().plain().start('b', 0).step(128, 'c', 128, 0);
        m.kerns.add(Metrics.HALF / 8);
        House h = new House();
        h.give(0, m.bytes());
        h.give(16, "b1c");
        House.due("a replaced kern", h.run("\\font\\f=0 \\f\\hsize1pt\\noindent abcde"), 0);
        House.due("a replaced kern", h.pages().get(0), "a 0 10 b 5 10 - 10 10 c 0 22 d 5 22 e 10 22");
        House.due("a kern that stays", h.run("\\font\\f=0 \\f\\noindent abcde"), 0);
        House.due("a kern that stays", h.pages().get(0), "a 0 10 b 5 10 c 10.625 10 d 15.625 10 e 20.625 10");
        // A ligature across the place leaves no hyphen there.
        h.give(0, new Metrics().plain().start('b', 0).step(128, 'c', 0, 'X').bytes());
        House.due("a ligature", h.run("\\font\\f=0 \\f\\hsize1pt\\noindent abcde"), 0);
        House.due("a ligature", h.pages().get(0), "a 0 10 X 5 10 d 10 10 e 15 10");
        // A word of 64 letters has no hyphens.
        h.give(0, new Metrics().plain().bytes());
        String letters = "abcd".repeat(16);
        House.due("63 letters", h.run("\\font\\f=0 \\f\\hsize1pt\\noindent " + letters.substring(1)), 0);
        House.due("63 letters", h.house.about(6), 14);
        House.due("64 letters", h.run("\\font\\f=0 \\f\\hsize1pt\\noindent " + letters), 0);
        House.due("64 letters", h.house.about(6), 0);
        // Without character 45 there are no hyphens.
        Metrics none = new Metrics().plain();
        none.characters.set('-' - 33, new int[] {0, 0, 0, 0});
        h.give(0, none.bytes());
        House.due("no character 45", h.run("\\font\\f=0 \\f\\hsize1pt\\noindent abcde\\-f"), 0);
        House.due("no character 45", h.pages().get(0), "a 0 10 b 5 10 c 10 10 d 15 10 e 20 10 f 0 22");
    }

    private static void breaking() {
        String text = "\\parindent0pt\\parfillskip0pt plus1fil\\hsize22.5pt ";
        // Two words and a space fill a line just.
        pages(text + "aaa b aaa b", "a 0 10 a 5 10 a 10 10 b 17.5 10 a 0 22 a 5 22 a 10 22 b 17.5 22");
        about(text + "aaa b aaa b", 4, 2);
        about(text + "aaa b aaa b", 5, 0);
        // A line may shrink by what its glue has, and no more.
        pages(text + "aaa b c aaa b", "a 0 10 a 5 10 a 10 10 b 17.5 10 c 0 22 a 7.5 22 a 12.5 22 a 17.5 22 b 0 34");
        pages("\\parindent0pt\\hsize22pt aaa b\\par", "a 0 10 a 5 10 a 10 10 b 17 10");
        about("\\parindent0pt\\hsize21pt aaa b\\par", 5, 1);
        about("\\parindent0pt\\hsize21.875pt aaa b\\par", 5, 0);
        // Left and right glue are in every line.
        pages("\\parindent0pt\\leftskip3pt\\rightskip0pt plus1fil\\hsize20pt ab cd ef",
            "a 3 10 b 8 10 c 3 22 d 8 22 e 3 34 f 8 34");
        about("\\parindent0pt\\hsize20pt ab", 3, 6);
        // A forced place; what may be left out goes behind it.
        pages("\\parindent0pt a\\hfil\\penalty-10000 \\hskip3pt\\kern2pt\\penalty5 b", "a 0 10 b 0 22");
        pages("\\parindent0pt a\\hfil\\penalty-10000 \\vrule width1pt b", "a 0 10 rule 0 22 1 5 b 1 22");
        pages("\\parindent0pt\\hsize6pt a\\penalty10000\\ b", "a 0 10 b 6.875 10");
        pages("\\parindent0pt\\hsize5pt a\\kern1pt\\ b", "a 0 10 b 0 22");
        pages("\\parindent0pt\\hsize5pt a\\kern1pt b", "a 0 10 b 6 10");
        about("\\parindent0pt\\hsize5pt a b c d", 7, 4);
        about("\\parindent0pt\\hsize5pt a b c d", 4, 4);
    }

    private static void passes() {
        String words = "\\parindent0pt\\hsize40pt\\parskip0pt ";
        about(words + "aaa bbb ccc ddd", 4, 2);
        // Looser by one line, if the tolerance allows.
        about(words + "\\tolerance10000 \\looseness1 aaa bbb ccc ddd", 4, 3);
        about(words + "\\pretolerance-1 \\tolerance0 \\looseness1 aaa bbb ccc ddd", 4, 2);
        House.dueCount(words + "\\looseness1 aaa\\par\\count1=\\looseness", 0);
        House.dueCount("{\\looseness1 {aaa\\par}\\global\\count1=\\looseness}", 1);
        House.dueCount("\\looseness1 \\noindent\\par\\count1=\\looseness", 1);
        House.dueCount("\\global\\looseness1 {aaa\\par}\\count1=\\looseness", 1);
        // With more stretch the last pass finds a way without an overfull line.
        about("\\parindent0pt\\hsize36pt\\tolerance200 aaa bbb cccccc d", 5, 1);
        about("\\parindent0pt\\hsize36pt\\tolerance200 \\emergencystretch20pt aaa bbb cccccc d", 5, 0);
        // Penalties of lines: club and widow, and one that is just 0 is none.
        about("\\clubpenalty0 \\widowpenalty0 \\parindent0pt\\hsize5pt\\vsize15pt a b c", 1, 3);
        pages("\\clubpenalty0 \\widowpenalty10000 \\parindent0pt\\hsize5pt\\vsize23pt a b c", "a 0 10", "b 0 10 c 0 22");
        about("\\clubpenalty10000 \\widowpenalty0 \\parindent0pt\\hsize5pt\\vsize15pt a b c", 1, 2);
    }

    private static void boxes() {
        pages("\\hbox{ab}", "a 0 10 b 5 10");
        pages("\\hbox to 30pt{a\\hfil b}", "a 0 10 b 25 10");
        pages("\\hbox spread 7pt{a\\hfil b}", "a 0 10 b 12 10");
        pages("\\hbox to 30pt{\\hfil a\\hfil}", "a 12.5 10");
        pages("\\hbox to 30pt{\\hskip0pt plus1fil a\\hskip0pt plus2fil}", "a 8.3333 10");
        pages("\\hbox to 30pt{\\hfil a\\hfill}", "a 0 10");
        pages("\\hbox to 30pt{\\hfil\\hfill a\\hskip0pt plus1filll}", "a 0 10");
        // Sums of glue: the same order adds up, else the greater one is taken.
        String sum = "\\skip1=0pt plus1FIRST\\relax\\advance\\skip1 by0pt plus2SECOND\\relax\\hbox to 45pt{\\hskip\\skip1 a"
            + "\\hskip0pt plus1THIRD}";
        pages(sum.replace("FIRST", "fil").replace("SECOND", "fil").replace("THIRD", "fil"), "a 30 10");
        pages(sum.replace("FIRST", "fill").replace("SECOND", "fil").replace("THIRD", "fill"), "a 20 10");
        pages(sum.replace("FIRST", "fil").replace("SECOND", "fill").replace("THIRD", "fil"), "a 40 10");
        pages(sum.replace("FIRST", "filll").replace("SECOND", "pt").replace("THIRD", "filll"), "a 20 10");
        pages("\\skip1=0pt plus1fil minus1pt\\multiply\\skip1 by3 \\hbox to 45pt{\\hskip\\skip1 a\\hfil}", "a 30 10");
        pages("\\skip1=0pt plus4fil\\divide\\skip1 by2 \\hbox to 35pt{\\hskip\\skip1 a\\hfil}", "a 20 10");
        pages("\\skip1=9pt plus1pt minus2pt\\multiply\\skip1 by2 \\hbox to 19pt{\\hskip\\skip1 a}", "a 14 10");
        pages("\\hbox to 7pt{a\\hskip4pt minus2pt b}", "a 0 10 b 7 10");
        about("\\hbox to 7pt{a\\hskip4pt minus2pt b}", 5, 1);
        about("\\hbox to 12pt{a\\hskip4pt minus2pt b}", 5, 0);
        pages("\\hbox to 20pt{a b}", "a 0 10 b 15 10");
        pages("\\hbox{a\\raise3pt\\hbox{b}\\lower3pt\\hbox{c}}", "a 0 10 b 5 7 c 10 13");
        pages("\\moveright7pt\\hbox{a}\\moveleft2pt\\hbox{b}", "a 7 10 b -2 22");
        pages("\\vbox{\\hbox{a}\\hbox{b}}", "a 0 5 b 0 17");
        pages("\\vbox to 40pt{\\hbox{a}\\vfil\\hbox{b}}", "a 0 5 b 0 40");
        pages("\\setbox1\\hbox{a}\\copy1\\box1\\box1\\copy1\\hbox{b}", "a 0 10 a 0 22 b 0 34");
        House.dueCount("\\setbox1\\hbox{ag}\\count1=\\wd1 \\advance\\count1 by\\ht1 \\advance\\count1 by\\dp1 ",
            655360 + 327680 + 163840);
        House.dueCount("\\setbox1\\vbox{\\hbox{ag}\\kern1pt}\\count1=\\ht1 \\advance\\count1 by\\dp1 ", 327680 + 163840 + 65536);
        House.dueCount("\\setbox1\\hbox to-3pt{}\\count1=\\wd1 ", -196608);
        House.dueCount("\\setbox1\\hbox{\\lower9pt\\hbox{a}}\\count1=\\ht1 ", 0);
        House.dueCount("\\setbox1\\vbox{\\moveleft9pt\\hbox{a}}\\count1=\\wd1 ", 0);
        run("\\hbox", 900001);
        run("\\hbox a", 600001);
        run("\\hbox to", 900001);
        run("\\hbox {a", 900001);
        run("\\setbox1 a", 600001);
        run("\\setbox256\\hbox{}", 700001);
        run("\\box256 ", 700001);
        run("\\hbox\\relax \\relax{}", 0);
        run("\\let\\a={\\hbox\\a}", 0);
        run("\\setbox1\\par", 600001);
        run("\\raise1pt\\relax", 1500001);
        run("\\hbox{\\raise1pt\\relax x}", 600001);
    }

    private static void packedBoxes() {
        run("\\hbox{\\hskip 16000pt\\hskip 16000pt}", 1600001);
        run("\\hbox{\\kern16000pt\\kern-16000pt\\kern16000pt}", 0);
        run("\\vbox{\\kern16000pt\\kern16000pt}", 1600001);
        run("\\hbox{\\hskip0pt plus16000pt\\hskip0pt plus16000pt}", 1600001);
        run("\\hbox{\\hskip0pt plus16000pt\\hskip0pt plus16000fil}", 0);
        run("\\hbox{\\hskip0pt minus16000pt\\hskip0pt minus16000pt}", 1600001);
        run("\\hbox to-16000pt{\\kern16000pt}", 1600001);
        run("\\hbox spread16000pt{\\kern16000pt}", 1600001);
        run("\\hbox{\\raise16000pt\\vbox{\\kern16000pt}}", 1600001);
        run("\\vbox{\\moveright16000pt\\hbox{\\kern16000pt}}", 1600001);
        run("\\hbox{".repeat(10) + "}".repeat(10), 0);
        run("\\hbox{".repeat(11) + "}".repeat(11), 200001);
    }

    private static void rules() {
        pages("\\hrule\\hbox{ab}", "rule 0 10 10 0.4 a 0 15 b 5 15");
        pages("\\hrule width 3pt height 2pt depth 1pt", "rule 0 11 3 3");
        pages("\\hrule height 2pt height 4pt width3pt", "rule 0 10 3 4");
        pages("\\hbox{a\\vrule\\lower2pt\\hbox{b}}", "a 0 10 rule 5 12 0.4 7 b 5.4 12");
        pages("\\hbox{\\vrule width1pt height 4pt depth2pt}", "rule 0 12 1 6");
        pages("\\vbox{\\hrule\\hbox{ab}\\hrule}", "rule 0 4.6 10 0.4 a 0 9.6 b 5 9.6 rule 0 10 10 0.4");
        pages("\\hbox{a}\\hrule height1pt\\hbox{b}", "a 0 10 rule 0 11 5 1 b 0 16");
        pages("\\hbox{\\vrule width-1pt height5pt a}", "a -1 10");
        pages("\\hbox{\\vrule height5pt depth-5pt a}", "a 0.4 10");
        pages("\\hrule", "");
        pages("\\vrule height1pt", "rule 20 10 0.4 1");
        about("\\hrule", 1, 1);
    }

    private static void pages() {
        pages("\\hbox{a}\\penalty-10000\\hbox{b}", "a 0 10", "b 0 10");
        pages("\\penalty-10000\\vskip5pt\\kern3pt\\hbox{a}", "a 0 10");
        pages("\\penalty-10000\\vskip5pt");
        about("\\penalty-10000\\vskip5pt", 1, 0);
        House.due("count 0 grows", House.ran("\\count0=5 {\\count0=9 \\hbox{a}\\penalty-10000}\\hbox{b}", 0).house.count(0), 11);
        pages("\\vsize30pt\\hbox{a}\\hbox{b}\\hbox{c}", "a 0 10 b 0 22", "c 0 10");
        pages("\\vsize34pt\\hbox{a}\\hbox{b}\\hbox{c}", "a 0 10 b 0 22 c 0 34");
        // The least cost, and of several the last one.
        pages("\\vsize30pt\\hbox{a}\\vskip0pt plus20pt\\penalty-500\\hbox{b}\\penalty0\\hbox{c}", "a 0 10", "b 0 10 c 0 22");
        pages("\\vsize40pt\\hbox{a}\\penalty50\\hbox{b}\\penalty50\\hbox{c}\\vskip99pt\\hbox{d}", "a 0 10 b 0 22 c 0 34",
            "d 0 10");
        pages("\\vsize30pt\\hbox{a}\\penalty10000\\hbox{b}\\penalty10000\\hbox{c}\\hbox{d}",
            "a 0 10 b 0 22 c 0 34", "d 0 10");
        // Glue stretches and shrinks to the frame's height.
        pages("\\vsize50pt\\hbox{a}\\vfil\\hbox{b}\\penalty-10000", "a 0 10 b 0 50");
        pages("\\vsize20pt\\hbox{a}\\vskip5pt minus9pt\\hbox{b}\\penalty-10000", "a 0 10 b 0 20");
        pages("\\vsize15pt\\baselineskip9pt minus3pt\\hbox{a}\\hbox{b}\\hbox{c}", "a 0 10", "b 0 10", "c 0 10");
        // A kern is a break when glue is behind it.
        pages("\\vsize12pt\\hbox{a}\\kern9pt\\vskip1pt\\hbox{b}", "a 0 10", "b 0 10");
        pages("\\vsize60pt\\vskip9pt\\hbox{a}\\kern9pt", "a 0 10");
        // A depth beyond the greatest one counts as length.
        pages("\\vsize12pt\\maxdepth0pt\\hbox{g}\\penalty0\\hbox{a}", "g 0 10", "a 0 10");
        pages("\\vsize40pt\\baselineskip12pt plus4pt\\hbox{a}\\hbox{b}\\hbox{c}\\penalty-10000", "a 0 10 b 0 25 c 0 40");
        pages("\\topskip20pt\\hbox{a}", "a 0 20");
        pages("\\topskip2pt\\hbox{a}", "a 0 5");
        pages("\\hbox{g}\\hbox{a}", "g 0 10 a 0 22");
        pages("\\baselineskip3pt\\hbox{a}\\hbox{b}", "a 0 10 b 0 16");
        pages("\\lineskiplimit8pt\\lineskip2pt\\hbox{a}\\hbox{b}", "a 0 10 b 0 17");
        pages("\\parskip3pt\\parindent0pt a\\par b", "a 0 10 b 0 25");
        pages("\\parskip3pt\\vbox{\\noindent a\\par\\noindent b}", "a 0 5 b 0 20");
        run("\\baselineskip16000pt\\setbox1\\hbox{\\vrule height-9000pt}\\hbox{}\\box1", 0);
        run("\\baselineskip-16000pt\\hbox{\\vrule height 9000pt}\\hbox{\\vrule height9000pt}", 1600001);
    }

    private static void frames() {
        // A page has the frame that there is when its first box comes.
        pages("\\topskip20pt\\hbox{a}\\topskip5pt\\penalty-10000\\hbox{b}", "a 0 20", "b 0 5");
        pages("\\hbox{a}\\penalty-10000\\topskip20pt\\hbox{b}", "a 0 10", "b 0 20");
        pages("\\vsize-5pt\\hbox{a}\\hbox{b}", "a 0 10", "b 0 10");
    }

    private static void code(String source, String due) {
        House.due(source, String.join(" ", new Printed(House.ran(source, 0).file()).codes), due);
    }

    private static void moves() {
        code("\\hbox{ab}", "159 243 171 97 98");
        code("\\hbox{\\kern1sp a\\kern127sp b\\kern128sp c\\kern-129sp d}", "159 143 243 171 97 143 98 144 99 144 100");
        code("\\hbox{\\kern-128sp a\\kern32768sp b\\kern8388608sp c}", "159 143 243 171 97 145 98 146 99");
        code("\\hbox{a\\kern5sp b\\kern5sp c\\kern5sp d}", "159 243 171 97 148 98 147 99 147 100");
        code("\\hbox{a\\kern5sp b\\kern6sp c\\kern5sp d\\kern6sp e}", "159 243 171 97 148 98 153 99 147 100 152 101");
        code("\\hbox{a\\kern5sp b\\kern6sp c\\kern7sp d\\kern5sp e\\kern6sp f\\kern7sp g}",
            "159 243 171 97 148 98 153 99 143 100 147 101 152 102 143 103");
        code("\\hbox{a\\kern5sp b\\kern5sp c\\kern7sp d\\kern7sp e}", "159 243 171 97 148 98 147 99 148 100 147 101");
        code("\\topskip12pt\\hbox{a}\\hbox{a}\\hbox{a}", "164 243 171 97 161 150 97 161 147 97");
        code("\\font\\g=0 at 5pt\\hbox{a\\g b\\f c\\g d}", "159 243 171 97 243 172 98 171 99 172 100");
        code("\\hbox{\\vrule height1pt\\vrule height1pt}", "159 137 144 137");
        code("\\hbox{a\\kern-8388608sp b\\kern8388607sp c}", "159 243 171 97 145 98 145 99");
        code("\\hbox{a\\kern-8388609sp b\\kern-32769sp c\\kern-32768sp d}", "159 243 171 97 146 98 145 99 144 100");
        House h = House.withFont();
        for (int slot = 9; slot <= 15; slot++) {
            h.give(slot, new Metrics().plain().bytes());
        }
        House.due("names of fonts", h.run("\\font\\a=9 \\font\\b=15 \\hbox{\\b x\\a y}"), 0);
        String file = new String(h.file(), java.nio.charset.StandardCharsets.ISO_8859_1);
        House.due("font 15, twice", file.split("\\x06font15", -1).length, 3);
        House.due("font 9, twice", file.split("\\x05font9", -1).length, 3);
        House.due("the last one first", file.lastIndexOf("font9") < file.lastIndexOf("font15") ? 1 : 0, 1);
        StringBuilder many = new StringBuilder("\\hbox{");
        for (int i = 1; i <= 70; i++) {
            many.append("\\font\\x=0 at ").append(i).append("sp \\x a");
        }
        House.due("seventy fonts", h.run(many + "}"), 0);
        byte[] b = h.file();
        int at = b.length;
        for (int i = b.length - 2; i > 0; i--) {
            at = (b[i] & 255) == 235 && (b[i + 1] & 255) == 69 && (b[i + 2] & 255) == 'a' ? i : at;
        }
        House.due("a number above 63", at < b.length ? 1 : 0, 1);
        Metrics large = new Metrics();
        large.last = 255;
        h.give(0, large.plain().bytes());
        House.due("a character above 127", h.run("\\font\\f=0 \\f\\hbox{\\char200 \\char127 \\char128 }"), 0);
        House.due("has two bytes", h.house.size(), 156);
        List<String> none = new Printed(House.ran("", 0).file()).codes;
        House.due("no codes without pages", none.size(), 0);
    }

    private static void faults() {
        run("\\count0=2147483647 \\hbox{a}", 700001);
        House h = House.ran("\\hbox{a}\\penalty-10000\\count0=2147483647 \\hbox{b}", 700001);
        House.due("what was shipped stays", h.pages().size(), 1);
        run("\\hbox{\\kern15258.78pt\\kern-5pt a}", 0);
        run("\\hbox{\\kern15258.78pt a}", 1600001);
        run("\\hbox{\\kern-15258.78pt a}", 0);
        run("\\hbox{\\kern-15258.79pt a}", 1600001);
        run("\\hrule width15258.79pt height1pt", 1600001);
        run("\\hrule width1pt height9000pt depth9000pt", 1600001);
        run("\\vskip1pt\\hbox{\\lower15258pt\\hbox{a}}", 1600001);
        run("\\noindent\\hskip16000pt\\hskip1000pt a", 1600001);
        run("\\noindent\\hskip0pt plus16000pt\\hskip0pt plus1000fil a", 1600001);
        run("\\emergencystretch16383pt\\noindent a", 1600001);
        run("\\emergencystretch16381pt\\noindent a", 0);
    }

    private static String loop(int n, String body) {
        return "\\def\\l{\\ifnum\\count200<" + n + " \\advance\\count200 by 1 " + body + "\\expandafter\\l\\fi}\\l";
    }

    private static void much(String source, int answer) {
        House h = House.withFont();
        h.house.fuel(200000);
        House.due(source, h.run("\\font\\f=0 \\f " + source), answer);
    }

    private static void limits() {
        much("\\hbox{" + loop(20000, "\\penalty0") + "}", 0);
        much("\\hbox{" + loop(20001, "\\penalty0") + "}", 200001);
        much("\\setbox1\\hbox{" + loop(20000, "\\kern0pt") + "}", 0);
        much("\\setbox2\\hbox{\\kern0pt}\\setbox1\\hbox{" + loop(20000, "\\kern0pt") + "}", 200001);
        much(loop(3000, "\\setbox1\\hbox{}"), 0);
        much(loop(3001, "\\setbox1\\hbox{}"), 200001);
        much("\\noindent" + loop(2000, "\\kern0pt"), 0);
        much("\\noindent" + loop(2001, "\\kern0pt"), 200001);
        much("\\noindent" + loop(2000, "\\kern0pt") + "\\hfil", 200001);
        much(loop(9998, "\\penalty0"), 0);
        much(loop(9999, "\\penalty0"), 200001);
        much("\\hbox{" + loop(3000, "\\vrule height1pt") + "}", 0);
        much("\\hbox{" + loop(3001, "\\vrule height1pt") + "}", 1700001);
        much("\\vsize10000pt\\setbox1\\hbox{" + loop(998, "\\kern0pt") + "}" + "\\copy1".repeat(20), 0);
        much("\\vsize10000pt\\setbox1\\hbox{" + loop(999, "\\kern0pt") + "}" + "\\copy1".repeat(20), 1700001);
        much("\\tolerance10000 \\pretolerance10000 \\hsize30pt\\noindent " + loop(300, "a b "), 200001);
        much("\\setbox1\\hbox{" + loop(2900, "\\vrule height1pt\\kern\\count200sp") + "}" + "\\copy1\\penalty-10000".repeat(5),
            0);
        much("\\setbox1\\hbox{" + loop(2900, "\\vrule height1pt\\kern\\count200sp") + "}" + "\\copy1\\penalty-10000".repeat(9),
            1700001);
    }
}
