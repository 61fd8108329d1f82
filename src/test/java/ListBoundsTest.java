/** The boundaries of words and lists, and of boxes: how they are packed, how many there are, and where their items come. */
public final class ListBoundsTest {
    private static final String MOST = "1073741823sp";

    public static void main(String[] args) {
        characters();
        longWords();
        spaces();
        modes();
        rules();
        depthBefore();
        betweenBoxes();
        openItems();
        mostBoxes();
        packedItems();
        deepBoxes();
        lengths();
        stretchSums();
        shifts();
        excesses();
        sizesBelow();
        order();
        overfull();
        shares();
        runningRules();
        voidBoxes();
        House.close();
    }

    private static void run(String source, int answer) {
        House.dueRun(source, answer);
    }

    private static void about(String source, int what, int due) {
        House.dueAbout(source, what, due);
    }

    private static void characters() {
        run("\\char33 \\char126 ", 0);
        run("\\char32 ", 1400001);
        run("\\char127 ", 1400001);
        run("\u00e4", 1400001);
        run("\\hbox{\\char32 }", 1400001);
        run("\\chardef\\x=127 \\x", 1400001);
        Metrics gap = new Metrics().plain();
        gap.characters.set('b' - 33, new int[] {0, 16, 0, 0});
        House some = new House();
        some.give(0, gap.bytes());
        House.due("a character within bc .. ec that is there", some.run("\\font\\f=0 \\f a"), 0);
        House.due("one that is not there", some.run("\\font\\f=0 \\f b"), 1400001);
        House none = new House();
        for (String source : new String[] {"a", "1", "\\char97 ", "\\chardef\\x=97 \\x", "\\hbox{a}", "\\hbox{ }", "\\ %",
            "\\hbox{\\ }", "\\noindent\\char97 "}) {
            House.due("no font: " + source, none.run(source), 1400001);
        }
        for (String source : new String[] {"\\-%", " %", "\\vrule%", "\\hskip1pt%", "\\hfil%", "\\hfill%", "\\indent%",
            "\\noindent%", "\\hbox{\\-\\indent\\par}%"}) {
            House.due("none is needed: " + source, none.run(source), 0);
        }
        House.due("255 before 14", none.run("\\char256 "), 700001);
        // The paragraph has begun when its first character is at fault.
        House.due("no font", none.run("a"), 1400001);
        House.due("the indent was packed", none.house.about(2), 1);
    }

    private static void longWords() {
        House h = new House();
        h.give(0, new Metrics().plain().start('f', 0).step(128, 'i', 0, 'F').bytes());
        String head = "\\font\\f=0 \\f\\hbox{";
        int[][] words = {{0, 1}, {62, 63}, {63, 65}, {64, 65}, {126, 127}, {127, 129}};
        for (int[] word : words) {
            House.due("a word", h.run(head + "x".repeat(word[0]) + "fi}"), 0);
            House.due("items of " + word[0] + " letters and fi", h.house.about(3), word[1]);
        }
        // A word ends behind a character 45, and at anything else that is done.
        Metrics m = new Metrics().plain().start('-', 0).start('f', 0).step(0, '-', 0, 'D').step(128, 'i', 0, 'F');
        House.due("a font", h.give(0, m.bytes()), 0);
        String[][] rows = {{"--", "2"}, {"f-", "1"}, {"fi", "1"}, {"f{}i", "2"}, {"f\\relax i", "2"}, {"f\\f i", "2"},
            {"f\\count1=1 i", "2"}, {"f\\iftrue i\\fi", "1"}, {"f\\number\\count1i", "3"}, {"f\\char105 ", "1"},
            {"\\char102 i", "1"}, {"\\chardef\\i=105 f\\i", "1"}, {"f\\char45 i", "2"}, {"f\\-i", "3"}, {"f\\par i", "2"},
            {"f\\noindent i", "2"}, {"f\\noexpand i", "1"}, {"f\\csname x\\endcsname i", "2"}, {"{f}i", "2"}};
        for (String[] row : rows) {
            House.due(row[0], h.run(head + row[0] + "}"), 0);
            int due = Integer.parseInt(row[1]) - (row[0].equals("f\\-i") ? 1 : 0);
            House.due(row[0], h.house.about(3), due);
        }
        // The hyphen behind a character 45, in paragraphs alone.
        about("\\hsize1pt\\noindent a-b", 6, 1);
        about("\\hsize1pt\\noindent a\\char45 b", 6, 1);
        about("\\hsize1pt\\noindent a\\chardef\\x=45 \\x b", 6, 1);
        about("\\hsize1pt\\hbox{a-b}", 4, 0);
    }

    private static void spaces() {
        for (int n = 0; n <= 6; n++) {
            Metrics m = new Metrics().plain();
            m.parameters.subList(n, 6).clear();
            House h = new House();
            h.give(0, m.bytes());
            House.due("a font with so few parameters: " + n, h.run("\\font\\f=0 \\f\\setbox1\\hbox{a b}\\count1=\\wd1 "
                + "\\hbox spread1.25pt{a b\\hskip0pt plus1.25pt\\vrule height1pt}\\hbox spread-.625pt{a b}"), 0);
            House.due("its space", h.house.count(1), n < 2 ? 655360 : 819200);
            double stretched = n < 2 ? 5 : n < 3 ? 7.5 : 8.125;
            House.due("its stretch", h.pages().get(0).split(" ")[4], stretched == 5 ? "5" : String.valueOf(stretched));
            House.due("its shrink", h.house.about(5), n < 4 ? 1 : 0);
            House.due("a little less", h.run("\\font\\f=0 \\f\\hbox spread-1sp{a b}"), 0);
            House.due("its shrink", h.house.about(5), n < 4 ? 1 : 0);
        }
        Metrics less = new Metrics().plain();
        less.parameters.set(1, 0xfffc0000);
        less.parameters.set(2, 0xffff0000);
        less.parameters.set(3, 0xffff0000);
        House h = new House();
        h.give(0, less.bytes());
        House.due("a width below 0", h.run("\\font\\f=0 \\f\\setbox1\\hbox{a b}\\count1=\\wd1 "), 0);
        House.due("a width below 0 stays", h.house.count(1), 491520);
        House.due("stretch and shrink below 0 are 0", h.run("\\font\\f=0 \\f\\hbox to20pt{a b}\\hbox to 5pt{a b}"), 0);
        House.due("nothing stretches", h.pages().get(0), "a 0 10 b 2.5 10 a 0 22 b 2.5 22");
        House.due("nothing shrinks", h.house.about(5), 1);
    }

    private static void modes() {
        for (String v : new String[] {"\\vskip1pt", "\\vfil", "\\vfill", "\\hrule"}) {
            run(v, 0);
            run("\\vbox{" + v + "}", 0);
            run("\\hbox{" + v + "}", 1500001);
            about("a" + v, 4, 1);
            run("\\hbox{\\vbox{a" + v + "}}", 0);
        }
        for (String h : new String[] {"\\raise", "\\lower"}) {
            run(h + "1pt\\hbox{}", 1500001);
            run("\\vbox{" + h + "1pt\\hbox{}}", 1500001);
            run("a" + h + "1pt\\hbox{}", 0);
            run("\\hbox{" + h + "1pt\\hbox{}}", 0);
            run(h, 1500001);
        }
        for (String v : new String[] {"\\moveleft", "\\moveright"}) {
            run(v + "1pt\\hbox{}", 0);
            run("\\vbox{" + v + "1pt\\hbox{}}", 0);
            run("a" + v + "1pt\\hbox{}", 1500001);
            run("\\hbox{" + v + "1pt\\hbox{}}", 1500001);
            run("\\hbox{" + v, 1500001);
        }
        String[] begin = {"a", "\\char97 ", "\\hskip1pt", "\\hfil", "\\hfill", "\\vrule", "\\indent", "\\-", "\\ \\relax"};
        for (String h : begin) {
            about(h, 2, 2);
            about("\\vbox{" + h + "}", 2, 3);
            about("\\noindent" + (h.equals("a") ? " a" : h), 2, h.equals("\\indent") ? 2 : 1);
        }
        about("\\noindent", 2, 0);
        about("\\hbox{\\noindent}", 2, 1);
        about("\\hbox{\\indent}", 2, 2);
        about("\\hbox{}", 2, 1);
        about("\\kern1pt\\penalty0 \\relax{}\\count1=1 \\par\\setbox1\\hbox{}", 2, 1);
        for (String bad : new String[] {"$", "&", "^", "_"}) {
            run(bad, 1500001);
            run("a" + bad, 1500001);
            run("\\hbox{" + bad + "}", 1500001);
        }
        run("#", 1200001);
        run("a#", 1200001);
        run("\\endcsname", 600001);
        run("\\count1=1\\ifvmode1\\fi\\relax\\ifnum\\count1=11\\else\\u\\fi", 0);
        run("a\\ifvmode\\u\\fi\\ifhmode\\else\\u\\fi", 0);
        run("\\vbox{\\ifvmode\\else\\u\\fi}\\hbox{\\ifhmode\\else\\u\\fi}", 0);
        run("\\vbox{a\\par\\ifvmode\\else\\u\\fi}", 0);
        run("\\vbox{\\noindent\\par\\ifvmode\\else\\u\\fi\\hbox{}\\ifvmode\\else\\u\\fi}", 0);
        run("\\hbox{\\vbox{}\\ifhmode\\else\\u\\fi}", 0);
        run("a\\par\\ifvmode\\else\\u\\fi", 0);
        // A space is nothing in vertical modes.
        about(" {} {} ", 3, 0);
        about("\\vbox{ {} {} }", 3, 0);
        about("\\hbox{ {} {} }", 3, 3);
        // In a vbox parskip comes before a paragraph only if the list is not empty.
        about("\\vbox{\\noindent b}", 3, 1 + 4);
        about("\\vbox{\\hbox{}\\noindent b}", 3, 4 + 4);
        about("\\vbox{\\penalty5 \\noindent b}", 3, 2 + 4);
        about("\\hbox{a\\vbox{\\noindent b}}", 3, 2 + 1 + 4);
        about("\\hbox{a\\vbox{\\hbox{}\\noindent b}}", 3, 2 + 4 + 4);
        run("\\char\\ifhmode97 \\else\\u\\fi", 0);
        run("a\\vskip\\ifvmode1pt\\else\\u\\fi", 0);
        run("\\hskip\\ifhmode1pt\\else\\u\\fi", 0);
        run("\\hbox\\ifvmode{\\else\\u\\fi\\ifvmode\\u\\fi}", 0);
    }

    private static void rules() {
        House.duePages("\\hbox{a}\\hrule", "a 0 10 rule 0 10.4 5 0.4");
        House.duePages("\\hbox{a\\vrule}", "a 0 10 rule 5 10 0.4 5");
        House.dueCount("\\setbox1\\hbox{\\vrule}\\count1=\\wd1 ", 26214);
        House.dueCount("\\setbox1\\vbox{\\hrule}\\count1=\\ht1 ", 26214);
        House.dueCount("\\setbox1\\vbox{\\hrule}\\count1=\\dp1 ", 0);
        House.duePages("\\hbox{a\\vrule height2pt height3pt depth1pt WIDTH2pt width1pt}", "a 0 10 rule 5 11 1 4");
        House.duePages("\\hbox{a}\\hrule depth1pt height0pt width5pt", "a 0 10 rule 0 11 5 1");
        // A mark only if its width is above 0, and its height and depth together are.
        House.duePages("\\hbox{a}\\hrule width1sp height1sp", "a 0 10 rule 0 10.0 0.0 0.0");
        House.duePages("\\hbox{a}\\hrule width0sp height1sp", "a 0 10");
        House.duePages("\\hbox{a}\\hrule width-1sp height1sp", "a 0 10");
        House.duePages("\\hbox{a}\\hrule width1sp height0sp", "a 0 10");
        House.duePages("\\hbox{a}\\hrule width1sp height1pt depth-1pt", "a 0 10");
        House.duePages("\\hbox{a}\\hrule width1pt height2pt depth-1pt", "a 0 10 rule 0 11 1 1");
        House.duePages("\\hbox{a}\\hrule width1pt height-1pt depth2pt", "a 0 10 rule 0 11 1 1");
        House.duePages("\\hbox{\\vrule}", "");
        House.duePages("\\hbox{a\\vrule width0pt\\vrule width-1pt}", "a 0 10");
        run("\\hrule width" + MOST, 1600001);
        run("\\hrule width16384pt", 700001);
        run("\\hrule width", 900001);
        run("\\hrule width a", 600001);
    }

    private static void depthBefore() {
        House.duePages("\\hbox{g}\\hbox{a}", "g 0 10 a 0 22");
        House.duePages("\\baselineskip8pt\\hbox{g}\\hbox{a}", "g 0 10 a 0 18");
        // None at first, in each list, and behind a rule; kerns, glue and penalties leave it.
        House.duePages("\\vbox{\\hbox{a}}", "a 0 10");
        House.duePages("\\hbox{a}\\vbox{\\hbox{b}}", "a 0 10 b 0 22");
        House.duePages("\\hbox{a}\\hrule height1pt\\hbox{b}", "a 0 10 rule 0 11 5 1 b 0 16");
        House.duePages("\\hbox{a}\\kern1pt\\vskip1pt\\penalty5 \\hbox{b}", "a 0 10 b 0 24");
        House.duePages("\\hbox{a}\\box1\\moveleft1pt\\box2 \\hbox{b}", "a 0 10 b 0 22");
        House.duePages("\\hbox{a}\\vbox{\\hrule height1pt\\hbox{b}\\hbox{c}}", "a 0 10 rule 0 12 5 1 b 0 17 c 0 29");
        about("\\hbox{a}\\hrule\\hbox{b}", 3, 2);
        about("\\vbox{\\hbox{a}\\hrule\\hbox{b}}", 3, 5);
        about("\\vbox{\\hbox{a}\\hbox{b}}", 3, 5);
        // A paragraph's lines are boxes of the list that it is in.
        House.duePages("\\parindent0pt\\hbox{a}b\\par c", "a 0 10 b 0 22 c 0 34");
    }

    private static void betweenBoxes() {
        // baselineskip, or lineskip if its width would be below lineskiplimit.
        House.duePages("\\lineskiplimit7pt\\lineskip1pt\\hbox{a}\\hbox{b}", "a 0 10 b 0 22");
        House.duePages("\\lineskiplimit458753sp\\lineskip1pt\\hbox{a}\\hbox{b}", "a 0 10 b 0 16");
        House.duePages("\\baselineskip5pt\\hbox{a}\\hbox{b}", "a 0 10 b 0 15");
        House.duePages("\\baselineskip327679sp\\lineskip2pt\\hbox{a}\\hbox{b}", "a 0 10 b 0 17");
        House.duePages("\\lineskiplimit-1sp\\baselineskip327679sp\\lineskip2pt\\hbox{a}\\hbox{b}", "a 0 10 b 0 15.0");
        // No size: whichever it is.
        String high = "\\setbox2\\hbox{\\vrule height1sp}";
        run(high + "\\baselineskip-" + MOST + "\\hbox{}\\hbox{}", 0);
        run(high + "\\baselineskip-" + MOST + "\\hbox{}\\box2 ", 1600001);
        run("\\baselineskip-1073741822sp\\hbox{}\\hbox{\\vrule height1sp}", 0);
        run("\\baselineskip-" + MOST + "\\hbox{\\vrule height0pt depth1sp}\\hbox{}", 1600001);
        run("\\baselineskip-" + MOST + "\\hrule\\hbox{\\vrule height1sp}", 0);
        run("\\baselineskip" + MOST + "\\hbox{}\\vbox{\\kern-1sp}", 1600001);
        run("\\baselineskip1073741822sp\\setbox1\\vbox{\\hbox{}\\vbox{\\kern-1sp}}", 0);
        run("\\vbox{\\baselineskip-" + MOST + "\\hbox{}\\hbox{\\vrule height1sp}}", 1600001);
    }

    private static void openItems() {
        House.much("\\hbox{" + House.loop(20000, "\\penalty0") + "}", 0);
        House.much("\\hbox{" + House.loop(20001, "\\penalty0") + "}", 200001);
        String half = House.loop(10000, "\\penalty0");
        House.much("\\hbox{" + half + "\\hbox{" + half + "}}", 0);
        House.much("\\hbox{" + half + "\\hbox{" + half + "\\kern0pt}}", 200001);
        House.much("\\hbox{" + half + "\\hbox{" + half + "}" + House.loop(9999, "\\penalty0") + "}", 0);
        House.much("\\hbox{" + half + "\\hbox{" + half + "}" + half + "}", 200001);
        // Those of the outer list are not among them, those of a paragraph are.
        House.much(House.loop(5000, "\\penalty0") + "\\hbox{" + House.loop(15001, "\\penalty0") + "}", 0);
        String thousand = House.loop(1000, "\\penalty0");
        House.much("\\noindent" + thousand + "\\hbox{" + House.loop(19000, "\\penalty0") + "}", 0);
        House.much("\\noindent" + thousand + "\\hbox{" + House.loop(19001, "\\penalty0") + "}", 200001);
        House.much("\\hbox{" + House.loop(19998, "\\penalty0") + "ab}", 0);
        House.much("\\hbox{" + House.loop(19998, "\\penalty0") + "abc}", 200001);
    }

    private static void mostBoxes() {
        House h = House.much(House.loop(3000, "\\setbox1\\hbox{}"), 0);
        House.due("3000 boxes", h.house.about(2), 3000);
        h = House.much(House.loop(3001, "\\setbox1\\hbox{}"), 200001);
        House.due("3000 boxes", h.house.about(2), 3000);
        House.much(House.loop(2999, "\\setbox1\\hbox{}") + "\\noindent\\kern1pt\\par", 0);
        House.much(House.loop(3000, "\\setbox1\\hbox{}") + "\\noindent\\kern1pt\\par", 200001);
        House.much(House.loop(3000, "\\setbox1\\hbox{}") + "\\noindent\\kern1pt\n\n", 200002);
        House.much(House.loop(2998, "\\setbox1\\hbox{}") + "a\\par", 0);
        House.much(House.loop(2999, "\\setbox1\\hbox{}") + "a\n\n", 200002);
        House.much(House.loop(3000, "\\setbox1\\hbox{}") + "a\n\n", 200001);
        House.much(House.loop(3000, "\\setbox1\\vbox{}") + "\\noindent\\par\\copy1 ", 0);
        House.much(House.loop(1500, "\\setbox1\\hbox{}\\box1 "), 0);
    }

    private static void packedItems() {
        House h = House.much("\\setbox1\\hbox{" + House.loop(20000, "\\kern0pt") + "}", 0);
        House.due("20000 items", h.house.about(3), 20000);
        h = House.much("\\setbox1\\hbox{\\kern0pt}\\setbox1\\hbox{" + House.loop(20000, "\\kern0pt") + "}", 200001);
        House.due("the box that had a fault is not told", h.house.about(2), 1);
        House.due("nor are its items", h.house.about(3), 1);
        House.much("\\setbox1\\hbox{\\kern0pt}\\setbox1\\hbox{" + House.loop(19999, "\\kern0pt") + "\\penalty0\\-}", 0);
        String ten = "\\setbox1\\hbox{" + "\\hfil".repeat(10) + "}";
        House.much(House.loop(2000, ten), 0);
        House.much(House.loop(2000, ten) + "\\setbox1\\hbox{}", 0);
        House.much(House.loop(2000, ten) + "\\setbox1\\hbox{\\penalty1 }", 0);
        House.much(House.loop(2000, ten) + "\\setbox1\\hbox{\\hfil}", 200001);
        // leftskip and rightskip are items of each line; parfillskip of the last one.
        House.much(House.loop(1999, ten) + "\\setbox1\\hbox{" + "\\hfil".repeat(6) + "}\\noindent\\kern0pt\\par", 0);
        House.much(House.loop(1999, ten) + "\\setbox1\\hbox{" + "\\hfil".repeat(7) + "}\\noindent\\kern0pt\\par", 200001);
    }

    private static String deep(int n, String within) {
        return "\\hbox{".repeat(n) + within + "}".repeat(n);
    }

    private static void deepBoxes() {
        run(deep(10, ""), 0);
        run(deep(11, ""), 200001);
        run(deep(10, "a"), 0);
        run("\\setbox1" + deep(10, "") + "\\copy1\\copy1", 0);
        run("\\setbox1" + deep(10, "") + "\\hbox{\\copy1}", 200001);
        run("\\setbox1" + deep(9, "") + "\\hbox{\\hbox{}\\copy1\\hbox{}}", 0);
        run("\\setbox1" + deep(9, "") + "\\noindent\\box1", 0);
        run("\\setbox1" + deep(10, "") + "\\noindent\\box1", 200001);
        run("\\setbox1" + deep(8, "") + "\\vbox{\\noindent\\box1}", 0);
        run("\\setbox1" + deep(9, "") + "\\vbox{\\noindent\\box1}", 200001);
        run("\\vbox{".repeat(10) + "}".repeat(10), 0);
        run("\\vbox{".repeat(11) + "}".repeat(11), 200001);
        House.due("those within were packed", House.ran(deep(11, ""), 200001).house.about(2), 10);
        House.due("101 groups", House.ran(deep(101, ""), 200001).house.about(2), 0);
    }

    private static void lengths() {
        String near = "\\kern1073741817sp";
        run("\\setbox1\\hbox{" + near + "\\kern6sp}", 0);
        run("\\setbox1\\hbox{" + near + "\\kern7sp}", 1600001);
        run("\\setbox1\\hbox{" + near + "\\kern7sp\\kern-7sp}", 1600001);
        run("\\setbox1\\hbox{\\kern-7sp" + near + "\\kern7sp}", 0);
        run("\\setbox1\\hbox{\\kern-1073741817sp\\kern-6sp}", 0);
        run("\\setbox1\\hbox{\\kern-1073741817sp\\kern-7sp}", 1600001);
        run("\\setbox1\\hbox{" + near + "\\hskip6sp}", 0);
        run("\\setbox1\\hbox{" + near + "\\hskip7sp}", 1600001);
        run("\\setbox1\\hbox{" + near + "\\vrule width6sp}", 0);
        run("\\setbox1\\hbox{" + near + "\\vrule width7sp}", 1600001);
        run("\\setbox2\\hbox{\\kern7sp}\\setbox1\\hbox{" + near + "\\box2}", 1600001);
        run("\\setbox1\\hbox{" + near + "a}", 1600001);
        run("\\setbox1\\vbox{" + near + "\\vskip6sp}", 0);
        run("\\setbox1\\vbox{" + near + "\\vskip7sp}", 1600001);
        run("\\setbox1\\vbox{\\kern-1073741817sp\\kern-7sp}", 1600001);
        // A depth and a height behind it are two.
        run("\\setbox1\\vbox{" + near + "\\hrule height0pt depth6sp\\hrule height0pt}", 0);
        run("\\setbox1\\vbox{" + near + "\\hrule height0pt depth7sp\\hrule height-7sp}", 1600001);
        run("\\setbox1\\vbox{" + near + "\\hrule height0pt depth7sp\\kern-7sp}", 1600001);
        run("\\setbox1\\vbox{" + near + "\\hrule height0pt depth7sp}", 0);
        run("\\setbox1\\vbox{" + near + "\\hrule height7sp depth-7sp}", 1600001);
        // Sizes of characters at great sizes are none.
        Metrics m = new Metrics().plain();
        m.widths.set(1, 8 << 20);
        m.heights.set(1, 8 << 20);
        House h = new House();
        House.due("a font", h.give(0, m.bytes()), 0);
        House.due("a size", h.run("\\font\\f=0 at134217711sp \\f\\setbox1\\hbox{a}"), 0);
        House.due("no size", h.run("\\font\\f=0 at134217727sp \\f\\setbox1\\hbox{a}"), 0);
        m.widths.set(1, (8 << 20) + 256);
        h.give(0, m.bytes());
        House.due("a width that is no size", h.run("\\font\\f=0 at134217727sp \\f\\setbox1\\hbox{a}"), 1600001);
        m.widths.set(1, 0xff7f0000);
        h.give(0, m.bytes());
        House.due("a width below all sizes", h.run("\\font\\f=0 at134217727sp \\f\\setbox1\\hbox{a}"), 1600001);
        m.widths.set(1, 1);
        m.heights.set(1, (8 << 20) + 256);
        h.give(0, m.bytes());
        House.due("a height that is no size", h.run("\\font\\f=0 at134217727sp \\f\\setbox1\\hbox{a}"), 1600001);
        m.heights.set(1, 0);
        m.depths.set(1, (8 << 20) + 256);
        h.give(0, m.bytes());
        House.due("a depth that is no size", h.run("\\font\\f=0 at134217727sp \\f\\setbox1\\hbox{g}"), 1600001);
    }

    private static void stretchSums() {
        String[] units = {"sp", "fil", "fill", "filll"};
        for (int order = 0; order < 4; order++) {
            String near = "\\hskip0pt plus" + (order == 0 ? "1073741817sp" : "16383.9999" + units[order]) + "\\relax";
            String six = order == 0 ? "6sp" : ".0001" + units[order];
            String seven = order == 0 ? "7sp" : ".0002" + units[order];
            // 16383.9999 times 65536 is 1073741817, .0001 is 7, so one such is too much already.
            run("\\setbox1\\hbox{" + near + "\\hskip0pt plus" + six + "\\relax}", order == 0 ? 0 : 1600001);
            run("\\setbox1\\hbox{" + near + "\\hskip0pt plus" + seven + "\\relax}", 1600001);
            run("\\setbox1\\hbox{" + near + "\\hskip0pt plus0" + units[order] + "\\relax}", 0);
            String other = "\\hskip0pt plus" + (order == 3 ? "1073741817sp" : "16383.9999" + units[order + 1]) + "\\relax";
            run("\\setbox1\\hbox{" + near + other + "}", 0);
            run("\\setbox1\\vbox{" + near.replace("hskip", "vskip") + other.replace("hskip", "vskip") + "}", 0);
            run("\\setbox1\\vbox{" + near.replace("hskip", "vskip").repeat(2) + "}", 1600001);
        }
        run("\\setbox1\\hbox{\\hskip0pt minus1073741817sp\\hskip0pt minus6sp}", 0);
        run("\\setbox1\\hbox{\\hskip0pt minus1073741817sp\\hskip0pt minus7sp}", 1600001);
        run("\\setbox1\\vbox{\\vskip0pt minus1073741817sp\\vskip0pt minus7sp}", 1600001);
        run("\\setbox1\\hbox{\\hskip0pt plus1073741817sp minus1073741817sp}", 0);
    }

    private static void shifts() {
        String tall = "\\setbox2\\hbox{\\vrule height" + MOST + "}";
        run(tall + "\\setbox1\\hbox{\\raise0sp\\box2}", 0);
        run(tall + "\\setbox1\\hbox{\\raise1sp\\box2}", 1600001);
        run(tall + "\\setbox1\\hbox{\\lower1sp\\box2}", 0);
        String low = "\\setbox2\\hbox{\\vrule height0pt depth" + MOST + "}";
        run(low + "\\setbox1\\hbox{\\lower0sp\\box2}", 0);
        run(low + "\\setbox1\\hbox{\\lower1sp\\box2}", 1600001);
        run(low + "\\setbox1\\hbox{\\raise1sp\\box2}", 0);
        String wide = "\\setbox2\\hbox{\\kern" + MOST + "}";
        run(wide + "\\setbox1\\vbox{\\moveright0sp\\box2}", 0);
        run(wide + "\\setbox1\\vbox{\\moveright1sp\\box2}", 1600001);
        run(wide + "\\setbox1\\vbox{\\moveleft1sp\\box2}", 0);
        String less = "\\setbox2\\hbox{\\kern-" + MOST + "}";
        run(less + "\\setbox1\\vbox{\\moveleft0sp\\box2}", 0);
        run(less + "\\setbox1\\vbox{\\moveleft1sp\\box2}", 1600001);
        run("\\setbox2\\vbox{\\kern-" + MOST + "}\\setbox1\\hbox{\\lower0sp\\box2}", 0);
        run("\\setbox2\\vbox{\\kern-" + MOST + "}\\setbox1\\hbox{\\lower1sp\\box2}", 1600001);
        run("\\setbox1\\hbox{\\raise-" + MOST + "\\hbox{}}", 0);
        // Width, height and depth are 0 at least; a shift moves what counts.
        House.dueCount("\\setbox1\\hbox{\\raise5sp\\hbox{}}\\count1=\\ht1 ", 5);
        House.dueCount("\\setbox1\\hbox{\\lower5sp\\hbox{}}\\count1=\\ht1 ", 0);
        House.dueCount("\\setbox1\\hbox{\\lower5sp\\hbox{}}\\count1=\\dp1 ", 5);
        House.dueCount("\\setbox1\\hbox{\\raise5sp\\hbox{}}\\count1=\\dp1 ", 0);
        House.dueCount("\\setbox1\\vbox{\\moveright5sp\\hbox{}}\\count1=\\wd1 ", 5);
        House.dueCount("\\setbox1\\vbox{\\moveleft5sp\\hbox{}}\\count1=\\wd1 ", 0);
        House.dueCount("\\setbox1\\hbox{\\kern-5sp}\\count1=\\wd1 ", -5);
        House.dueCount("\\setbox1\\vbox{\\kern-5sp}\\count1=\\ht1 ", -5);
        House.dueCount("\\setbox1\\hbox{\\vrule height-5sp depth-5sp}\\count1=\\ht1 ", 0);
        House.dueCount("\\setbox1\\hbox{\\vrule height-5sp depth-5sp}\\count1=\\dp1 ", 0);
        House.dueCount("\\setbox1\\vbox{\\hrule width-5sp}\\count1=\\wd1 ", 0);
        House.dueCount("\\setbox1\\vbox{\\hrule depth-5sp}\\count1=\\dp1 ", -5);
        House.dueCount("\\setbox1\\vbox{\\hrule depth5sp\\kern0sp}\\count1=\\dp1 ", 0);
        House.dueCount("\\setbox1\\vbox{\\hrule depth5sp\\penalty0 }\\count1=\\dp1 ", 5);
        House.dueCount("\\setbox1\\vbox{\\hrule depth5sp\\kern0sp}\\count1=\\ht1 ", 26219);
    }

    private static void excesses() {
        run("\\setbox1\\hbox to" + MOST + "{}", 0);
        run("\\setbox1\\hbox to-" + MOST + "{}", 0);
        run("\\setbox1\\hbox to" + MOST + "{\\kern-1sp}", 1600001);
        run("\\setbox1\\hbox to-" + MOST + "{\\kern1sp}", 1600001);
        run("\\setbox1\\hbox to1073741822sp{\\kern-1sp}", 0);
        run("\\setbox1\\hbox spread" + MOST + "{}", 0);
        run("\\setbox1\\hbox spread" + MOST + "{\\kern1sp}", 1600001);
        run("\\setbox1\\hbox spread-" + MOST + "{\\kern-1sp}", 1600001);
        run("\\setbox1\\hbox spread" + MOST + "{\\kern-1sp}", 0);
        run("\\setbox1\\vbox to" + MOST + "{\\kern-1sp}", 1600001);
        run("\\setbox1\\vbox spread" + MOST + "{\\kern1sp}", 1600001);
        run("\\hsize" + MOST + "\\noindent\\kern-1sp\\par", 1600001);
        run("\\parindent" + MOST + "\\setbox1\\hbox{\\indent}", 0);
        House.dueCount("\\setbox1\\hbox to5sp{\\kern9sp}\\count1=\\wd1 ", 5);
        House.dueCount("\\setbox1\\hbox spread5sp{\\kern9sp}\\count1=\\wd1 ", 14);
        House.dueCount("\\setbox1\\vbox to5sp{\\kern9sp}\\count1=\\ht1 ", 5);
        House.dueCount("\\setbox1\\vbox spread-5sp{\\kern9sp}\\count1=\\ht1 ", 4);
    }

    private static void sizesBelow() {
        House.dueCount("\\setbox1\\vbox{\\hrule width9sp\\hbox{\\kern8sp}}\\count1=\\wd1 ", 9);
        House.duePages("\\vbox{\\moveright3pt\\hbox{a}\\moveleft3pt\\hbox{b}}", "a 3 5 b -3 17");
        House.duePages("\\topskip0pt\\vbox{\\hbox{g}\\hrule height1pt width1pt depth2pt\\hrule height1pt width1pt}",
            "g 0 5 rule 0 10.5 1 3 rule 0 11.5 1 1");
        House.duePages("\\topskip0pt\\vbox{\\hbox{g}\\kern1pt\\hrule height1pt width1pt}", "g 0 5 rule 0 9.5 1 1");
        House.duePages("\\topskip0pt\\vbox{\\hbox{g}\\vskip1pt\\hrule height1pt width1pt}", "g 0 5 rule 0 9.5 1 1");
        // A character's height is another size than its width.
        Metrics low = new Metrics().plain();
        low.heights.set(1, Metrics.HALF / 2);
        House h = new House();
        h.give(0, low.bytes());
        House.due("low characters", h.run("\\font\\f=0 \\f\\hbox{ab\\vrule width1pt c}"), 0);
        House.due("low characters", h.pages().get(0), "a 0 10 b 5 10 rule 10 10 1 2.5 c 11 10");
        String box = "\\setbox1\\vbox{\\hrule height3sp depth2sp width7sp\\hrule height4sp depth1sp\\moveright2sp\\hbox{\\kern6sp}"
            + "\\kern5sp\\hrule height1sp depth9sp}";
        House.dueCount(box + "\\count1=\\ht1 ", 3 + 2 + 4 + 1 + 0 + 0 + 5 + 1);
        House.dueCount(box + "\\count1=\\dp1 ", 9);
        House.dueCount(box + "\\count1=\\wd1 ", 8);
        House.dueCount("\\setbox1\\vbox{}\\count1=\\ht1\\advance\\count1\\dp1\\advance\\count1\\wd1 ", 0);
        House.dueCount("\\setbox1\\hbox{}\\count1=\\ht1\\advance\\count1\\dp1\\advance\\count1\\wd1 ", 0);
    }

    private static void order() {
        // 2 comes before 16.
        House.much(House.loop(3000, "\\setbox1\\hbox{}") + "\\hbox{\\kern9999pt\\kern9999pt}", 200001);
        House.much("\\setbox1\\hbox{\\kern0pt}\\hbox{\\kern9999pt\\kern9999pt" + House.loop(19998, "\\kern0pt") + "}", 200001);
        run("\\setbox1" + deep(10, "") + "\\hbox{\\kern9999pt\\kern9999pt\\box1}", 200001);
        run("\\setbox1" + deep(9, "") + "\\hbox{\\kern9999pt\\kern9999pt\\box1}", 1600001);
        House h = House.ran("\\setbox1\\hbox to0pt{a}\\hbox{\\kern9999pt\\kern9999pt}", 1600001);
        House.due("boxes without the one that had a fault", h.house.about(2), 1);
        House.due("items without its own", h.house.about(3), 1);
        House.due("overfull boxes", h.house.about(5), 1);
        h = House.ran("\\hbox to0pt{\\kern9999pt\\kern9999pt}", 1600001);
        House.due("none", h.house.about(2) + h.house.about(3) + h.house.about(5), 0);
    }

    private static void overfull() {
        about("\\hbox to0sp{\\hskip1sp minus1sp}", 5, 0);
        about("\\hbox to-1sp{\\hskip1sp minus1sp}", 5, 1);
        about("\\hbox to0sp{\\kern1sp}", 5, 1);
        about("\\hbox to1sp{}", 5, 0);
        about("\\hbox spread-1sp{}", 5, 1);
        about("\\hbox spread-1sp{\\hskip0pt minus1sp}", 5, 0);
        about("\\hbox to0sp{\\hskip1sp plus1fil}", 5, 1);
        about("\\hbox spread-1sp{\\hfil}\\hbox spread-1sp{\\hfill}\\vbox spread-1sp{\\vfil}\\vbox spread-1sp{\\vfill}", 5, 4);
        about("\\vbox to0sp{\\kern1sp}", 5, 1);
        about("\\vbox to0sp{\\vskip1sp minus1sp}", 5, 0);
        about("\\vbox to0sp{\\hrule height0sp depth9sp}", 5, 0);
        about("\\parindent-1sp\\indent", 5, 1);
        about("\\parindent0sp\\indent", 5, 0);
        // The excess is taken as less the total for the places.
        House.dueX("\\hbox to0pt{\\hskip10sp minus4sp\\vrule height1pt width100sp\\hskip0pt minus2sp\\vrule height1pt}", 6, 104);
    }

    private static void shares() {
        String rule = "\\vrule height1pt width1sp\\kern-1sp";
        House.dueX("\\hbox to1sp{\\hskip0pt plus1sp" + rule + "\\hskip0pt plus1sp" + rule + "}", 1, 1);
        House.dueX("\\hbox to3sp{\\hskip0pt plus1sp" + rule + "\\hskip0pt plus1sp" + rule + "}", 2, 3);
        House.dueX("\\hbox to1sp{\\hskip0pt plus1sp" + rule + "\\hskip0pt plus2sp" + rule + "}", 0, 1);
        House.dueX("\\hbox to2sp{\\hskip0pt plus1sp" + rule + "\\hskip0pt plus2sp" + rule + "}", 1, 2);
        House.dueX("\\hbox spread-1sp{\\hskip0pt minus1sp" + rule + "\\hskip0pt minus1sp" + rule + "}", -1, -1);
        House.dueX("\\hbox spread-3sp{\\hskip0pt minus3sp" + rule + "\\hskip0pt minus3sp" + rule + "}", -2, -3);
        House.dueX("\\hbox spread-1sp{\\hskip0pt minus1sp" + rule + "\\hskip0pt minus2sp" + rule + "}", 0, -1);
        // The greatest order alone; a kern, and glue of other orders, have no share.
        House.dueX("\\hbox to9sp{\\hskip0pt plus1fil" + rule + "\\hskip0pt plus1fill" + rule + "}", 0, 9);
        House.dueX("\\hbox to9sp{\\hskip0pt plus1filll" + rule + "\\hskip0pt plus1fill" + rule + "}", 9, 9);
        House.dueX("\\hbox to9sp{\\hskip0pt plus1fil" + rule + "\\hskip0pt plus9pt" + rule + "}", 9, 9);
        House.dueX("\\hbox to1000000sp{\\hfil" + rule + "\\hskip0pt plus1fil" + rule + "}", 500000, 1000000);
        House.dueX("\\hbox to1000000sp{\\hfill" + rule + "\\hskip0pt plus1fill" + rule + "}", 500000, 1000000);
        House.dueX("\\hbox to9sp{\\kern2sp" + rule + "\\hskip0pt plus9pt" + rule + "}", 2, 9);
        House.dueX("\\hbox to9sp{\\hskip2sp" + rule + "\\hskip3sp" + rule + "}", 2, 5);
        House.dueX("\\hbox spread0sp{\\hskip2sp plus9sp minus9sp" + rule + "}", 2);
        House.dueX("\\hbox to" + "1000000000sp{\\hskip0pt plus1073741823sp" + rule + "}", 1000000000);
        House.dueX("\\hbox to1000000000sp{\\hskip0pt plus1073741822sp" + rule + "\\hskip0pt plus1sp" + rule + "}",
            999999999, 1000000000);
        // Below one another.
        String lying = "\\hrule height0sp depth1sp width1pt\\kern-1sp";
        House.dueY("\\topskip0pt\\vbox to3sp{\\vskip0pt plus1sp" + lying + "\\vskip0pt plus1sp" + lying + "\\kern0sp}", 3, 4);
        House.dueY("\\topskip0pt\\vbox to20sp{\\kern20sp\\vskip0pt minus3sp\\kern-20sp\\kern23sp\\vskip0pt minus1sp" + lying + "}",
            21);
    }

    private static void runningRules() {
        House.duePages("\\hbox{a\\vrule width1pt\\lower3pt\\hbox{b}}", "a 0 10 rule 5 13 1 8 b 6 13");
        House.duePages("\\vbox{\\hrule height1pt\\hbox{ab}}", "rule 0 5 10 1 a 0 10 b 5 10");
        House.duePages("\\vbox{\\hrule height1pt}", "");
        House.duePages("\\hbox to30pt{\\vbox{\\hrule height1pt\\hbox{a}}}", "rule 0 5 5 1 a 0 10");
        // On a page: the greatest of 0 and the widths of its boxes with their shifts, and of rules.
        House.duePages("\\hrule height1pt\\moveright3pt\\hbox{a}\\penalty-10000\\hrule height1pt\\moveleft9pt\\hbox{a}"
            + "\\hrule height1pt width2pt", "rule 0 10 8 1 a 3 15", "rule 0 10 2 1 a -9 15 rule 0 16 2 1");
        House.duePages("\\hrule height1pt\\moveleft9pt\\hbox{a}", "a -9 15");
    }

    private static void voidBoxes() {
        about("\\box1\\copy1\\moveleft1pt\\box1\\hbox{\\raise1pt\\box1\\lower1pt\\copy1\\box1}", 3, 0);
        House.due("no page", House.ran("\\box1\\copy255 ", 0).house.about(1), 0);
        about("\\setbox1\\hbox{}\\hbox{\\copy1\\copy1\\box1\\box1}", 3, 3);
        House.dueCount("\\setbox1\\hbox{a}\\setbox1\\box2\\count1=1\\ifvoid1 1\\fi\\relax", 11);
        House.dueCount("\\setbox1\\hbox{}\\count1=1\\ifvoid1 1\\fi\\relax", 1);
    }
}
