/** The boundaries of breaking paragraphs: places, badness, tolerances, demerits, choices, and the greatest numbers. */
public final class LineBoundsTest {
    private static final String RAGGED = "\\parindent0pt\\rightskip0pt plus1fil\\hyphenpenalty0 \\exhyphenpenalty0 ";

    public static void main(String[] args) {
        endings();
        looseness();
        places();
        leftOut();
        badnessOfStretch();
        badnessOfShrink();
        fits();
        tolerances();
        linePenalty();
        hyphenPenalties();
        doubleAndFinal();
        justSoMany();
        adjacent();
        moreStretch();
        ties();
        rescue();
        mostItems();
        mostNodes();
        mostLooks();
        sizes();
        penaltiesBetween();
        lineBoxes();
        House.close();
    }

    private static void run(String source, int answer) {
        House.dueRun(source, answer);
    }

    private static void about(String source, int what, int due) {
        House.dueAbout(source, what, due);
    }

    private static void endings() {
        about("\\noindent\\par", 4, 0);
        about("\\noindent\\par", 2, 0);
        about("\\noindent\\penalty0\\par", 4, 1);
        about("\\noindent\\hfil\\par", 4, 1);
        about("\\indent\\par", 4, 1);
        about("\\noindent\\vskip1pt", 4, 0);
        about("\\noindent a\\vskip1pt", 4, 1);
        about("\\vbox{\\noindent}", 2, 1);
        about("\\vbox{\\noindent a}", 4, 1);
        about("a\\end", 4, 1);
        about("a", 4, 1);
        about("a\\par\\par\n\n\n\\par", 4, 1);
        run("a{\\par}", 0);
        run("{a", 900001);
        House.due("the paragraph has ended before", House.ran("{a", 900001).house.about(4), 1);
        House.due("also within a box", House.ran("\\vbox{a", 900001).house.about(4), 1);
        House.due("and when a condition is open", House.ran("\\iftrue a\\end", 900001).house.about(4), 1);
        // The last glue goes, and only one.
        about("\\noindent\\kern1pt\\hfil\\par", 3, 4);
        about("\\noindent\\kern1pt\\hfil\\hfil\\par", 3, 5);
        about("\\noindent\\kern1pt\\hfil\\kern1pt\\par", 3, 6);
        about("\\noindent\\hfil\\par", 3, 3);
    }

    private static void looseness() {
        House.dueCount("\\looseness=3 a\\par\\count1=\\looseness", 0);
        House.dueCount("\\looseness=3 \\noindent\\par\\count1=\\looseness", 3);
        House.dueCount("\\looseness=3 {a\\par}\\count1=\\looseness", 3);
        House.dueCount("\\looseness=3 {a\\par\\global\\count1=\\looseness}", 0);
        // 124 penalties: from 1 to 125 lines. The looseness is within -100 and 100.
        String free = "\\pretolerance10000 \\noindent" + "\\penalty0".repeat(124);
        about(free, 4, 1);
        about("\\looseness=1 " + free, 4, 2);
        about("\\looseness=99 " + free, 4, 100);
        about("\\looseness=100 " + free, 4, 101);
        about("\\looseness=101 " + free, 4, 101);
        about("\\looseness=2147483647 " + free, 4, 101);
        String many = RAGGED + "\\linepenalty0 \\pretolerance10000 \\noindent" + "\\penalty-10".repeat(124);
        about(many, 4, 125);
        about("\\looseness=-1 " + many, 4, 124);
        about("\\looseness=-100 " + many, 4, 25);
        about("\\looseness=-101 " + many, 4, 25);
        about("\\looseness=-2147483647 " + many, 4, 25);
        // No more lines than there may be; only lines between the best and the wished number count.
        String two = "\\tolerance10000 \\pretolerance10000 \\noindent\\penalty0\\penalty-10000\\penalty0\\penalty0 ";
        about(two, 4, 2);
        about("\\looseness=3 " + two, 4, 5);
        about("\\looseness=4 " + two, 4, 5);
        about("\\looseness=-1 " + two, 4, 2);
        // A pass that is not the last one fails, if the wished number is not there.
        about("\\tolerance10000 \\looseness=1 \\pretolerance10000 \\noindent\\-\\kern0pt", 4, 2);
        about("\\tolerance10000 \\looseness=0 \\pretolerance10000 \\noindent\\-\\kern0pt", 4, 1);
        about("\\tolerance10000 \\looseness=2 \\pretolerance10000 \\noindent\\-\\kern0pt", 4, 2);
        about("\\tolerance10000 \\looseness=-1 \\pretolerance10000 \\noindent\\-\\kern0pt", 7, 3);
    }

    /** How many nodes a list of items has if every place is a node, with one line and others before it. */
    private static void nodes(String items, int due) {
        about(RAGGED + "\\pretolerance10000 \\noindent " + items + "\\par", 7, due);
    }

    private static void places() {
        nodes("\\kern0pt", 1);
        nodes("a\\hskip0pt\\kern0pt", 3);
        nodes("\\hskip0pt\\kern0pt", 1);
        nodes("\\vrule\\hskip0pt\\kern0pt", 3);
        nodes("\\hbox{}\\hskip0pt\\kern0pt", 3);
        nodes("a\\hskip0pt\\hskip0pt\\kern0pt", 3);
        nodes("a\\penalty10000 \\hskip0pt\\kern0pt", 1);
        nodes("a\\penalty9999 \\kern0pt", 3);
        nodes("a\\penalty99999 \\kern0pt", 1);
        nodes("\\penalty0\\kern0pt", 3);
        nodes("a\\kern0pt\\hskip0pt\\kern0pt", 3);
        nodes("a\\kern0pt\\kern0pt\\kern0pt", 1);
        nodes("a\\kern0pt\\hskip0pt", 1);
        nodes("a\\kern0pt\\penalty10000 \\hskip0pt\\kern0pt", 1);
        nodes("a\\-b", 1);
        nodes("a\\-\\hskip0pt\\kern0pt", 3);
        nodes("a\\penalty-10000 b", 2);
        nodes("a\\penalty-9999 b", 3);
        nodes("a\\penalty-99999 b", 2);
        // With hyphens, in the second pass.
        String second = RAGGED + "\\pretolerance-1 \\noindent ";
        about(second + "a\\-b", 7, 3);
        about(second + "a-b", 7, 3);
        about(second + "\\hyphenpenalty9999 a\\-b", 7, 3);
        about(second + "\\hyphenpenalty10000 a\\-b", 7, 1);
        about(second + "\\hyphenpenalty10000 a-b", 7, 3);
        about(second + "\\exhyphenpenalty10000 a-b", 7, 1);
        about(second + "\\hyphenpenalty-10000 a\\-b", 7, 2);
        about(second + "\\hyphenpenalty-9999 a\\-b", 7, 3);
        // A kern of a word is not explicit: glue behind it is a place, and it is none itself.
        Metrics m = new Metrics().plain().step(255, 'Z', 0, 0).start('a', 1).step(128, 'Z', 128, 0);
        m.kerns.add(Metrics.HALF / 8);
        House h = new House();
        h.give(0, m.bytes());
        House.due("a kern of a word", h.run("\\font\\f=0 \\f " + RAGGED + "\\pretolerance10000 \\noindent a\\hskip0pt\\kern0pt\\par"), 0);
        House.due("a kern of a word", h.house.about(7), 3);
        // Nor is it left out behind a break.
        Metrics front = new Metrics().plain().step(128, 'a', 128, 0).step(255, 0, 0, 0);
        front.kerns.add(Metrics.HALF / 8);
        h.give(0, front.bytes());
        House.due("a kern before a word", h.run("\\font\\f=0 \\f\\parindent0pt a\\hfil\\penalty-10000 a"), 0);
        House.due("a kern before a word", h.pages().get(0), "a 0.625 10 a 0.625 22");
    }

    private static void leftOut() {
        String[] gone = {"\\hskip9pt", "\\kern9pt", "\\penalty5 ", "\\penalty10000 ", "\\hskip9pt\\kern9pt\\penalty5 \\hfil "};
        for (String items : gone) {
            House.duePages("\\parindent0pt a\\hfil\\penalty-10000 " + items + "b", "a 0 10 b 0 22");
            House.duePages("\\parindent0pt\\hyphenpenalty-10000 \\pretolerance-1 a\\-" + items + "b", "a 0 10 - 5 10 b 0 22");
        }
        House.duePages("\\parindent0pt a\\hfil\\penalty-10000 \\-\\kern9pt b", "a 0 10 b 9 22");
        House.duePages("\\parindent0pt a\\hfil\\penalty-10000 \\hbox{}\\kern9pt b", "a 0 10 b 9 22");
        House.duePages("\\parindent0pt\\hskip9pt\\kern9pt a", "a 18 10");
        // If E comes before the first one, there are no items.
        House.duePages("\\parindent0pt a\\hfil\\penalty-10000 \\kern9pt\\penalty-10000 b", "a 0 10 b 0 34");
        about("\\parindent0pt a\\hfil\\penalty-10000 \\kern9pt\\penalty-10000 b", 3, 11);
        // What a hyphen replaces is there only if the line does not break there.
        Metrics m = new Metrics().plain().start('b', 0).step(128, 'c', 128, 0);
        m.kerns.add(Metrics.HALF / 8);
        House h = new House();
        h.give(0, m.bytes());
        h.give(16, "b1c c1d");
        House.due("the first of two hyphens", h.run("\\font\\f=0 \\f\\tolerance10000 \\hsize15pt\\noindent abcdef"), 0);
        House.due("its kern goes", h.pages().get(0), "a 0 10 b 5 10 - 10 10 c 0 22 - 5 22 d 0 34 e 5 34 f 10 34");
        House.due("the second one", h.run("\\font\\f=0 \\f\\hsize20.625pt\\noindent abcdef"), 0);
        House.due("the kern stays", h.pages().get(0), "a 0 10 b 5 10 c 10.625 10 - 15.625 10 d 0 22 e 5 22 f 10 22");
    }

    /** Whether a line of which the stretch must give t of s is feasible in a first pass with that tolerance. */
    private static boolean feasible(long t, long s, int tolerance, boolean shrinks) {
        String glue = shrinks ? "\\hskip" + t + "sp minus" + s + "sp" : "\\hskip0pt plus" + s + "sp";
        String source = "\\parfillskip0pt\\hsize" + (shrinks ? 1000 : t + 1000) + "sp\\tolerance10000 \\pretolerance" + tolerance
            + " \\noindent\\-\\vrule width1000sp\\penalty10000 " + glue + "\\relax\\vrule width0pt\\par";
        // In the second pass the hyphen is a place: there are more nodes then.
        return House.ran(source, 0).house.about(7) == 1;
    }

    private static int bad(long t, long s) {
        if (t == 0) {
            return 0;
        }
        if (s == 0) {
            return 10000;
        }
        long r = t <= 7230584 ? 297 * t / s : s >= 1663497 ? t / (s / 297) : t;
        return r > 1290 ? 10000 : (int) ((r * r * r + 131072) / 262144);
    }

    private static void badness(long t, long s, boolean shrinks) {
        int b = bad(t, s);
        if (b > 0) {
            House.due("badness " + t + " by " + s + ", below " + b, feasible(t, s, b - 1, shrinks) ? 1 : 0, 0);
        }
        House.due("badness " + t + " by " + s + " is " + b, feasible(t, s, b, shrinks) ? 1 : 0, 1);
    }

    private static void badnessOfStretch() {
        House.due("the greatest r", bad(1290, 297), 8189);
        House.due("one more", bad(1291, 297), 10000);
        long[][] rows = {{0, 0}, {0, 5}, {1, 0}, {1, 1}, {100, 297}, {1290, 297}, {1291, 297}, {1290, 298}, {7230584, 1663497},
            {7230584, 1663496}, {7230585, 1663497}, {7230585, 1663496}, {7230585, 1664495}, {7230584, 7230584},
            {7230585, 7230585}, {90000000, 90000296}, {100000000, 23023255}, {100000000, 23023254}, {2, 1000}, {40, 297}, {41, 297},
            {594, 297}, {866, 297}, {359, 297}, {902, 297}};
        for (long[] row : rows) {
            badness(row[0], row[1], false);
        }
    }

    private static void badnessOfShrink() {
        long[][] rows = {{1, 1}, {1, 2}, {10, 297}, {7230584, 7230584}, {7230585, 7230585}, {7230585, 14461170}, {0, 0}};
        for (long[] row : rows) {
            badness(row[0], row[1], true);
        }
        House.due("one more than the shrink is overfull", feasible(10, 9, 10000, true) ? 1 : 0, 0);
        House.due("just the shrink", feasible(10, 10, 100, true) ? 1 : 0, 1);
    }

    private static void fits() {
        // A very loose line behind the beginning has the adjacent demerits, a loose one has not.
        int veryLoose = chosenByAdjacent(10000, 10000);
        int loose = chosenByAdjacent(9950, 10000);
        House.due("badness 100 is very loose", veryLoose, 1);
        House.due("badness 99 is loose", loose, 0);
        // A tight line, and then one with badness 12 or 13: decent or loose. The adjacent demerits come with the latter.
        String head = "\\parindent0pt\\tolerance10000 \\pretolerance10000 \\linepenalty0 \\adjdemerits20000 \\hsize13pt\\noindent";
        String tight = "\\vrule height1pt width15pt\\penalty10000 \\hskip0pt minus2pt\\penalty-10000 ";
        String end = "\\vrule height1pt width1pt\\penalty100 \\vrule height1pt width5pt\\par";
        int[][] rows = {{12, 394543, 131514}, {13, 391896, 130632}};
        for (int[] row : rows) {
            String here = row[0] == 12 ? "rule 0 34 1 1 rule 1 34 5 1" : "rule 12 22 1 1 rule 0 34 5 1";
            House.due("badness", bad(3 * 65536, row[1]), row[0]);
            House.duePages(head + tight + "\\vrule height1pt width10pt\\hskip0pt plus" + row[1] + "sp\\penalty0 \\hskip0pt plus1fil" + end,
                "rule 0 10 15 1 rule 0 22 10 1 " + here);
        }
        // A loose line, and then one with badness 12 or 13: decent or tight.
        String looseLine = "\\vrule height1pt width11pt\\penalty10000 \\hskip0pt plus3pt\\penalty-10000 ";
        for (int[] row : rows) {
            House.due("badness", bad(65536, row[2]), row[0]);
            String text = head + looseLine + "\\vrule height1pt width14pt\\penalty10000 \\hskip0pt minus" + row[2] + "sp\\penalty0 \\hskip0pt minus8pt"
                + end.replace("width5pt", "width12pt");
            String[] marks = House.ran(text, 0).pages().get(0).split(" ");
            House.due(text + " (the line of the third rule)", marks[12], row[0] == 12 ? "34" : "22");
        }
    }

    /** 1 if a line that stretches t by s is left alone because of adjacent demerits. */
    private static int chosenByAdjacent(int t, int s) {
        String source = "\\parindent0pt\\tolerance10000 \\pretolerance10000 \\linepenalty0 \\adjdemerits20000 \\hsize" + (t + 10000)
            + "sp\\parfillskip0pt plus1fil\\noindent\\vrule height1pt width10000sp\\hskip0pt plus" + s
            + "sp\\penalty0\\hskip0pt plus1fil\\penalty150 \\vrule height1pt width10000sp\\par";
        // The way over the first place costs 10000 and perhaps 20000 or 40000 more, that over the second one 22500.
        House h = House.ran(source, 0);
        return h.house.about(4) == 2 ? 0 : 1;
    }

    private static void tolerances() {
        // 10000 is the greatest one: a line that is overfull is never feasible.
        String text = "\\parindent0pt\\exhyphenpenalty10000 \\hyphenpenalty0 \\hsize7pt ";
        for (String t : new String[] {"10000", "10001", "2147483647"}) {
            about(text + "\\pretolerance" + t + " \\tolerance" + t + " a\\-a", 6, 1);
        }
        for (String t : new String[] {"10000", "10001", "2147483647"}) {
            about("\\pretolerance-1 \\hsize7pt\\tolerance" + t + " \\noindent a\\penalty0 b\\penalty0 c", 7, 3);
            about("\\pretolerance" + t + " \\hsize7pt\\tolerance0 \\noindent a\\penalty0 b\\penalty0 c", 7, 3);
        }
        // -1 and less: no first pass. 0: one that takes what is perfect.
        for (String t : new String[] {"-1", "-2", "-2147483647"}) {
            about("\\parindent0pt\\tolerance10000 \\pretolerance" + t + " a\\-a", 7, 3);
        }
        about("\\parindent0pt\\tolerance10000 \\pretolerance0 a\\-a", 7, 1);
        // 0 is the least one of the second.
        for (String t : new String[] {"0", "-1", "-2147483647"}) {
            about(RAGGED + "\\pretolerance-1 \\tolerance" + t + " \\noindent a\\penalty0 b", 7, 3);
            about("\\pretolerance-1 \\tolerance" + t + " \\noindent a\\penalty0 b", 7, 1);
        }
    }

    private static void linePenalty() {
        // Two lines, the first one with badness 10000 and a penalty of -1, or one perfect line.
        String text = "\\parindent0pt\\tolerance10000 \\pretolerance10000 \\adjdemerits0 \\noindent\\kern1pt\\penalty-1 \\kern1pt"
            + "\\vrule width1pt\\par";
        about("\\linepenalty0 " + text, 4, 1);
        about("\\linepenalty-10000 " + text, 4, 2);
        about("\\linepenalty-10001 " + text, 4, 2);
        about("\\linepenalty-20000 " + text, 4, 2);
        about("\\linepenalty-2147483647 " + text, 4, 2);
        // Two lines cost as much as one and the final demerits, if the line penalty is 9999; with 10000 more.
        String hyphen = RAGGED + "\\hyphenpenalty-9999 \\finalhyphendemerits-1 \\pretolerance-1 \\noindent a\\-b";
        about("\\linepenalty9999 " + hyphen, 4, 2);
        about("\\linepenalty10000 " + hyphen, 4, 1);
        about("\\linepenalty2147483647 " + hyphen, 4, 1);
        String just = RAGGED + "\\hyphenpenalty-9999 \\linepenalty10000 \\pretolerance-1 \\noindent a\\-b";
        about("\\finalhyphendemerits-19999 " + just, 4, 1);
        about("\\finalhyphendemerits-20000 " + just, 4, 2);
        // l + b of 10000 or more is 100000000: with 9999 a line less is worth more than a penalty.
        String forced = "\\parindent0pt\\rightskip0pt plus1fil\\tolerance10000 \\pretolerance10000 \\noindent\\vrule width1pt"
            + "\\penalty-9999 \\vrule width1pt\\penalty-9999 \\vrule width1pt\\par";
        about("\\linepenalty0 " + forced, 4, 3);
        about("\\linepenalty9999 " + forced, 4, 1);
        about("\\linepenalty9998 " + forced, 4, 3);
        about("\\linepenalty10000 " + forced, 4, 1);
        about("\\linepenalty2147483647 " + forced, 4, 1);
    }

    private static void hyphenPenalties() {
        // The same clamps for hyphens, and for those before which nothing stands.
        String[][] names = {{"\\hyphenpenalty", "a\\-b"}, {"\\exhyphenpenalty", "a-b"}};
        for (String[] name : names) {
            String head = "\\parindent0pt\\rightskip0pt plus1fil\\finalhyphendemerits0 \\pretolerance-1 \\linepenalty0 " + name[0];
            about(head + "0 " + name[1], 4, 1);
            about(head + "-1 " + name[1], 4, 2);
            about(head + "1 " + name[1], 4, 1);
            about(head + "10000 " + name[1], 7, 1);
            about(head + "10001 " + name[1], 7, 1);
            about(head + "2147483647 " + name[1], 7, 1);
            about(head + "9999 " + name[1], 7, 3);
            about(head + "-9999 " + name[1], 7, 3);
            about(head + "-10000 " + name[1], 7, 2);
            about(head + "-10001 " + name[1], 7, 2);
            about(head + "-2147483647 " + name[1], 7, 2);
        }
    }

    private static void doubleAndFinal() {
        // The second line ends at a hyphen, or at a penalty right before it.
        String twice = RAGGED + "\\finalhyphendemerits0 \\pretolerance-1 \\linepenalty0 \\hsize15pt aa\\-bb\\penalty";
        String[][] rows = {{"1000000", "1001", "2"}, {"2000000", "1001", "2"}, {"2147483647", "1001", "2"}, {"1000000", "999", "1"},
            {"999999", "1000", "2"}, {"-1000000", "-1001", "1"}, {"-2000000", "-1001", "1"}, {"-2147483647", "-1001", "1"},
            {"-1000000", "-999", "2"}};
        for (String[] row : rows) {
            about("\\doublehyphendemerits" + row[0] + " " + twice + row[1] + " \\-ccc", 6, Integer.parseInt(row[2]));
        }
        // The last line comes behind a hyphen, or behind a penalty.
        String last = RAGGED + "\\doublehyphendemerits0 \\pretolerance-1 \\linepenalty0 \\hsize15pt aa\\-\\penalty";
        for (String[] row : rows) {
            about("\\finalhyphendemerits" + row[0] + " " + last + row[1] + " ccc", 6, Integer.parseInt(row[2]) - 1);
        }
    }

    /** Where both ways cost the same, the place that comes first is taken: so the greatest demerits are just 1000000. */
    private static void justSoMany() {
        for (String most : new String[] {"1000000", "1000001", "2147483647"}) {
            for (String sign : new String[] {"", "-"}) {
                String p = "\\penalty" + sign + "1000 ";
                String twice = RAGGED + "\\finalhyphendemerits0 \\pretolerance-1 \\linepenalty2000 \\hsize15pt\\doublehyphendemerits" + sign
                    + most + " aa\\-bb";
                about(twice + p + "\\-ccc", 6, 1);
                about(twice + "\\-" + p + "ccc", 6, 2);
                String last = RAGGED + "\\doublehyphendemerits0 \\pretolerance-1 \\linepenalty2000 \\hsize15pt\\finalhyphendemerits" + sign
                    + most + " aa";
                about(last + p + "\\-ccc", 6, 0);
                about(last + "\\-" + p + "ccc", 6, 1);
            }
            String head = "\\parindent0pt\\tolerance10000 \\pretolerance10000 \\hsize20pt\\adjdemerits";
            String rule = "\\noindent\\vrule height1pt width10pt\\hskip0pt plus10pt\\penalty";
            String mid = " \\vrule height1pt width10pt\\penalty";
            String end = " \\vrule height1pt width5pt\\par";
            String first = "rule 0 10 10 1 rule 0 22 10 1 rule 10 22 5 1";
            String second = "rule 0 10 10 1 rule 10 10 10 1 rule 0 22 5 1";
            House.duePages(head + most + " \\linepenalty318 " + rule + "0" + mid + "1440" + end, first);
            House.duePages(head + most + " \\linepenalty318 " + rule + "1" + mid + "1440" + end, second);
            House.duePages(head + "-" + most + " \\linepenalty150 " + rule + "0" + mid + "-1400" + end, first);
            House.duePages(head + "-" + most + " \\linepenalty150 " + rule + "1" + mid + "-1400" + end, second);
        }
    }

    private static void adjacent() {
        // The first line has badness 100 and is very loose, and then both lines have them; or it is perfect, at a penalty.
        String text = "\\parindent0pt\\tolerance10000 \\pretolerance10000 \\linepenalty0 \\hsize20pt\\noindent\\vrule height1pt width10pt"
            + "\\hskip0pt plus10pt\\penalty0 \\vrule height1pt width10pt\\penalty";
        String end = " \\vrule height1pt width5pt\\par";
        String first = "rule 0 10 10 1 rule 0 22 10 1 rule 10 22 5 1";
        String second = "rule 0 10 10 1 rule 10 10 10 1 rule 0 22 5 1";
        for (String most : new String[] {"1000000", "1000001", "2147483647"}) {
            House.duePages("\\adjdemerits" + most + " " + text + "1418" + end, first);
            House.duePages("\\adjdemerits" + most + " " + text + "1417" + end, second);
        }
        House.duePages("\\adjdemerits1003000 " + text + "1418" + end, first);
        House.duePages("\\adjdemerits999999 " + text + "1418" + end, first);
        for (String least : new String[] {"-1000000", "-1000001", "-2147483647"}) {
            House.duePages("\\adjdemerits" + least + " " + text + "-1418" + end, second);
            House.duePages("\\adjdemerits" + least + " " + text + "-1410" + end, first);
        }
    }

    private static void moreStretch() {
        // A third pass only if there is more stretch than 0, and then the second one is not the last.
        String text = "\\parindent0pt\\pretolerance-1 \\tolerance100 \\parfillskip0pt\\hsize20pt\\noindent a\\-a\\emergencystretch";
        about(text + "0pt\\par", 7, 1);
        about(text + "-5pt\\par", 7, 1);
        about(text + "-16383pt\\par", 7, 1);
        about(text + "9pt\\par", 7, 1);
        about(text + "10pt\\par", 7, 2);
        about(text + "16370pt\\par", 7, 3);
        about("\\emergencystretch1sp\\tolerance100 \\pretolerance-1 \\hsize327681sp\\noindent a\\penalty0 b\\par", 7, 2);
        about("\\emergencystretch0sp\\tolerance100 \\pretolerance-1 \\hsize327681sp\\noindent a\\penalty0 b\\par", 7, 1);
    }

    private static void ties() {
        // Of the same totals at the end: the fewest lines, then the least fit.
        String same = RAGGED + "\\linepenalty0 \\pretolerance10000 \\noindent\\vrule width1pt\\penalty0\\vrule width1pt";
        about(same + "\\par", 4, 1);
        // Of the same totals before: the place that is least.
        House.duePages(RAGGED + "\\linepenalty0 \\pretolerance10000 \\hsize12pt a\\penalty0 b\\penalty0 cc", 
            "a 0 10 b 5 10 c 0 22 c 5 22");
        House.duePages(RAGGED + "\\linepenalty0 \\pretolerance10000 \\hsize15pt a\\penalty0 b\\penalty0 cc",
            "a 0 10 b 0 22 c 5 22 c 10 22");
        // Two ways to one place with as many lines and the same total: the former one with the greatest fit.
        String head = "\\parindent0pt\\tolerance10000 \\pretolerance10000 \\linepenalty0 \\adjdemerits0 \\hsize10pt\\noindent"
            + "\\vrule height1pt width10pt\\penalty";
        String loose = "38 \\vrule width0pt\\penalty10000 \\hskip2pt minus4pt\\penalty20 \\vrule height1pt width8pt";
        String tight = "638 \\vrule width0pt\\penalty10000 \\hskip-2pt plus4pt\\penalty630 \\vrule height1pt width12pt";
        String last = "\\penalty-10000 \\vrule height1pt width5pt\\par";
        House.duePages(head + loose + "\\penalty10000 \\hskip0pt plus3pt" + last,
            "rule 0 10 10 1 rule 2 22 8 1 rule 0 34 5 1");
        House.duePages(head + tight + "\\penalty10000 \\hskip0pt minus2pt" + last,
            "rule 0 10 10 1 rule 0 22 12 1 rule 0 34 5 1");
        // A tight line, or two decent ones at the same cost: the fewest lines.
        about(head + "100 \\vrule width2pt\\penalty10000 \\hskip0pt minus2pt\\vrule width0pt\\par", 4, 1);
        about(head + "99 \\vrule width2pt\\penalty10000 \\hskip0pt minus2pt\\vrule width0pt\\par", 4, 2);
        // At the end of the paragraph: the least fit.
        House.duePages("\\parfillskip0pt plus3pt" + head + loose + "\\par", "rule 0 10 10 1 rule 0 22 8 1");
        House.duePages("\\parfillskip0pt minus2pt" + head + tight + "\\par", "rule 0 10 10 1 rule -2 22 12 1");
    }

    private static void rescue() {
        // In the last pass a line that is too long or too short is made if there is no other way.
        about("\\parindent0pt\\hsize1pt aaa", 4, 1);
        about("\\parindent0pt\\hsize1pt aaa", 5, 1);
        about("\\parindent0pt\\hsize1pt aaa aaa", 4, 2);
        about("\\parindent0pt\\hsize1pt aaa aaa", 7, 2);
        about("\\parindent0pt\\hsize30pt a\\penalty-10000 a", 4, 2);
        about("\\parindent0pt\\hsize30pt a\\penalty-10000 a", 5, 0);
        about("\\parindent0pt\\hsize-30pt a\\penalty-10000 a", 5, 2);
        about("\\parindent0pt\\hsize0pt\\noindent\\kern0pt", 5, 0);
        // Not yet in the second pass, if there is a third one.
        about("\\emergencystretch1sp\\parindent0pt\\hsize1pt aaa aaa", 7, 2);
    }

    private static void mostItems() {
        House.much("\\noindent" + House.loop(2000, "\\kern0pt"), 0);
        House.much("\\noindent" + House.loop(2001, "\\kern0pt"), 200001);
        House.much("\\noindent" + House.loop(1999, "\\kern0pt") + "\\hfil", 0);
        House.much("\\noindent" + House.loop(2000, "\\kern0pt") + "\\hfil", 200001);
        House.much(House.loop(1999, "\\kern0pt").replaceFirst("", "\\\\indent"), 0);
        House.much(House.loop(2000, "\\kern0pt").replaceFirst("", "\\\\indent"), 200001);
        // Known when the paragraph ends.
        House.much("\\noindent" + House.loop(2001, "\\kern0pt") + "\n\n\n", 200002);
        House.much("\\noindent" + House.loop(2000, "\\penalty10000"), 0);
        House.much("\\noindent" + House.loop(1998, "\\penalty10000") + "ab%", 0);
        House.much("\\noindent" + House.loop(1998, "\\penalty10000") + "abc%", 200001);
        House.much("\\noindent" + House.loop(2000, "\\-"), 0);
        House.much("\\vbox{\\noindent" + House.loop(2001, "\\kern0pt") + "}", 200001);
    }

    private static void mostNodes() {
        // m penalties and k forced ones behind them: m (m + 1) / 2 and (m + 1) (k + 1) nodes.
        String head = "\\pretolerance10000 \\noindent";
        about(head + "\\penalty0".repeat(3) + "\\penalty-10000 ", 7, 6 + 8);
        about(head + "\\penalty0".repeat(124) + "\\penalty-10000 ", 7, 8000);
        run(head + "\\penalty0".repeat(125), 200001);
        about(head + "\\penalty0".repeat(124), 7, 7875);
        run(head + "\\penalty0".repeat(124) + "\\penalty-10000\\penalty-10000 ", 200001);
        // Each pass by itself, and each paragraph.
        String both = "\\pretolerance10000 \\tolerance10000 \\looseness-1 \\noindent";
        about(both + "\\penalty0".repeat(124) + "\\penalty-10000 ", 7, 8000);
        about((head + "\\penalty0".repeat(124) + "\\penalty-10000\\par ").repeat(2), 7, 16000);
        // A node that is there in need is one, too.
        String need = "\\pretolerance-1 \\tolerance10000 \\noindent";
        String over = "\\penalty-10000\\vrule width9999pt ";
        about(need + "\\penalty0".repeat(123) + over, 7, 123 * 124 / 2 + 124 + 1);
        about(need + "\\penalty0".repeat(18) + "\\penalty-10000".repeat(411) + over, 7, 8000);
        run(need + "\\penalty0".repeat(124) + "\\penalty-10000" + over, 200001);
    }

    /** The looks of a paragraph of m penalties, without hyphens, in one pass. */
    private static int looks(int m) {
        int sum = 0;
        for (int place = 1; place <= m + 1; place++) {
            sum += 1 + place * (place - 1) / 2;
        }
        return sum;
    }

    private static void mostLooks() {
        StringBuilder source = new StringBuilder("\\pretolerance10000 \\def\\p{\\penalty0 }\\def\\q{\\p\\p\\p\\p\\p\\p\\p\\p\\p\\p}");
        int left = 3000000;
        int last = 124;
        while (left > 0) {
            while (looks(last) > left) {
                last--;
            }
            left -= looks(last);
            source.append("\\noindent").append("\\q".repeat(last / 10)).append("\\p".repeat(last % 10))
                .append(last == 0 ? "\\kern0pt" : "").append("\\par\n");
        }
        House.due("3000000 looks", House.much(source.toString(), 0).house.about(1), 1);
        House h = House.much(source + "\\noindent\\kern0pt\\par", 200000 + source.toString().split("\n").length + 1);
        House.due("the paragraphs before were broken", h.house.about(4) > 5 ? 1 : 0, 1);
        House.due("again in another run", h.run("\\font\\f=0 \\f " + source), 0);
    }

    private static void sizes() {
        String most = "1073741823sp";
        String free = "\\setbox1\\vbox{\\parfillskip0pt\\hsize0pt\\noindent";
        String broken = "\\par}";
        run(free + "\\kern" + most + broken, 0);
        run(free + "\\kern" + most + "\\kern1sp" + broken, 1600001);
        // Without their signs.
        run(free + "\\kern" + most + "\\kern-1sp" + broken, 1600001);
        run(free + "\\kern1073741822sp\\kern-1sp" + broken, 0);
        run(free + "\\kern-" + most + broken, 0);
        run(free + "\\kern-" + most + "\\kern1sp" + broken, 1600001);
        // The glue that goes from the end, too; boxes, rules, characters, hyphens.
        run(free + "\\kern1073741822sp\\hskip1sp" + broken, 0);
        run(free + "\\kern" + most + "\\hskip1sp" + broken, 1600001);
        run(free + "\\kern" + most + "\\hskip0sp" + broken, 0);
        run(free + "\\kern" + most + "\\vrule width-1sp" + broken, 1600001);
        run(free + "\\kern1073741822sp\\hbox{\\kern-1sp}" + broken, 0);
        run(free + "\\kern" + most + "\\hbox{\\kern-1sp}" + broken, 1600001);
        run(free + "\\kern1073414143sp a" + broken, 0);
        run(free + "\\kern1073414144sp a" + broken, 1600001);
        run(free + "\\kern1073414143sp\\-" + broken, 0);
        run(free + "\\kern1073414144sp\\-" + broken, 1600001);
        run(free + "\\kern1073414143sp -" + broken, 0);
        run(free + "\\kern" + most + "\\penalty9999 " + broken, 0);
        House.due("nothing stands before a hyphen without a font", new House().run(free + "\\kern" + most + "\\-" + broken), 0);
        for (String glue : new String[] {"leftskip", "rightskip", "parfillskip"}) {
            String set = "\\setbox1\\vbox{\\parfillskip0pt\\hsize0pt\\" + glue;
            run(set + "1sp\\noindent\\kern1073741822sp" + broken, 0);
            run(set + "1sp\\noindent\\kern" + most + broken, 1600001);
            run(set + "-1sp\\noindent\\kern" + most + broken, 1600001);
            run(set + "0pt plus1sp\\noindent\\hskip0pt plus1073741822sp\\kern0pt" + broken, 0);
            run(set + "0pt plus1sp\\noindent\\hskip0pt plus" + most + "\\kern0pt" + broken, 1600001);
            run(set + "0pt minus1sp\\noindent\\hskip0pt minus1073741822sp\\kern0pt" + broken, 0);
            run(set + "0pt minus1sp\\noindent\\hskip0pt minus" + most + "\\kern0pt" + broken, 1600001);
        }
        // All stretch together, with more stretch.
        String glue = "\\parfillskip0pt\\noindent\\hskip0pt plus1073741820sp\\kern0pt";
        run("\\emergencystretch3sp" + glue, 0);
        run("\\emergencystretch4sp" + glue, 1600001);
        run("\\emergencystretch-4sp" + glue, 0);
        run("\\parfillskip0pt\\noindent\\hskip0pt plus16383.9999fil\\relax\\hskip0pt plus6sp\\kern0pt", 0);
        run("\\parfillskip0pt\\noindent\\hskip0pt plus16383.9999fil\\relax\\hskip0pt plus7sp\\kern0pt", 1600001);
        run("\\parfillskip0pt\\noindent\\kern0pt\\hskip0pt plus16383.9999fil\\relax\\hskip0pt plus7sp", 1600001);
        // Over all lines: each one alone could be packed.
        String one = "\\setbox1\\vbox{\\parfillskip0pt\\hsize0pt\\leftskip0pt";
        String part = "\\kern0pt\\penalty-10000\\vrule width0pt";
        run(one + "\\noindent\\kern1073741822sp" + part + "\\kern1sp\\kern0pt\\par}", 0);
        run(one + "\\noindent\\kern1073741822sp" + part + "\\kern2sp\\kern0pt\\par}", 1600001);
        run(one + "\\noindent\\hskip0pt plus1073741822sp" + part + "\\hskip0pt plus1sp\\kern0pt\\par}", 0);
        run(one + "\\noindent\\hskip0pt plus1073741822sp" + part + "\\hskip0pt plus2sp\\kern0pt\\par}", 1600001);
        run(one + "\\noindent\\hskip0pt minus1073741822sp" + part + "\\hskip0pt minus1sp\\kern0pt\\par}", 0);
        run(one + "\\noindent\\hskip0pt minus1073741822sp" + part + "\\hskip0pt minus2sp\\kern0pt\\par}", 1600001);
        for (String each : new String[] {"leftskip", "rightskip"}) {
            String set = one + "\\" + each;
            run(set + "0pt minus1sp\\noindent\\hskip0pt minus1073741821sp" + part + "\\hskip0pt minus1sp\\kern0pt\\par}", 0);
            run(set + "0pt minus1sp\\noindent\\hskip0pt minus1073741821sp" + part + "\\hskip0pt minus2sp\\kern0pt\\par}", 1600001);
            run(set + "0pt plus1sp\\noindent\\hskip0pt plus1073741821sp" + part + "\\hskip0pt plus1sp\\kern0pt\\par}", 0);
            run(set + "0pt plus1sp\\noindent\\hskip0pt plus1073741821sp" + part + "\\hskip0pt plus2sp\\kern0pt\\par}", 1600001);
        }
        run(one + "\\parfillskip0pt minus1sp\\noindent\\hskip0pt minus1073741823sp" + part + "\\par}", 1600001);
        run(one + "\\parfillskip0pt plus1sp\\noindent\\hskip0pt plus1073741823sp" + part + "\\par}", 1600001);
        run(one + "\\parfillskip1sp\\noindent\\kern1073741823sp" + part + "\\par}", 1600001);
        // A hyphen counts where no line ends, too.
        run(free + "\\hyphenpenalty10000 \\kern1073414143sp\\-" + broken, 0);
        run(free + "\\hyphenpenalty10000 \\kern1073414144sp\\-" + broken, 1600001);
        // Behind that of 2000 items, before those of nodes.
        House.much(free + "\\kern" + most + "\\kern1sp" + House.loop(1999, "\\kern0pt"), 200001);
        House.much(free + "\\kern" + most + "\\kern1sp" + House.loop(1998, "\\kern0pt"), 1600001);
        run("\\pretolerance10000 " + free + "\\kern" + most + "\\kern1sp" + "\\penalty0".repeat(125), 1600001);
        House.due("nothing was broken", House.ran(free + "\\kern" + most + "\\kern1sp\\par", 1600001).house.about(4), 0);
    }

    private static void penaltiesBetween() {
        String three = "\\parindent0pt\\vsize1000pt\\noindent a\\hfil\\penalty-10000 b\\hfil\\penalty-10000 c\\par";
        String none = "\\clubpenalty0 \\widowpenalty0 \\interlinepenalty0 ";
        // A penalty of -10000 ends the page behind a line.
        House.duePages(none + three, "a 0 10 b 0 22 c 0 34");
        House.duePages(none + "\\clubpenalty-10000 " + three, "a 0 10", "b 0 10 c 0 22");
        House.duePages(none + "\\widowpenalty-10000 " + three, "a 0 10 b 0 22", "c 0 10");
        House.duePages(none + "\\interlinepenalty-10000 " + three, "a 0 10", "b 0 10", "c 0 10");
        House.duePages(none + "\\interlinepenalty-5000 \\clubpenalty-5000 " + three, "a 0 10", "b 0 10 c 0 22");
        House.duePages(none + "\\interlinepenalty-5000 \\clubpenalty-4999 " + three, "a 0 10 b 0 22 c 0 34");
        House.duePages(none + "\\interlinepenalty2147483647 \\clubpenalty-2147483647 " + three, "a 0 10 b 0 22 c 0 34");
        House.duePages(none + "\\interlinepenalty-2147483647 \\clubpenalty2147483647 " + three, "a 0 10 b 0 22", "c 0 10");
        House.duePages(none + "\\interlinepenalty-2147483647 \\clubpenalty-2147483647 \\widowpenalty2147483647 " + three,
            "a 0 10", "b 0 10 c 0 22");
        // Two lines: both club and widow.
        String two = "\\parindent0pt\\noindent a\\hfil\\penalty-10000 b\\par";
        House.duePages(none + "\\clubpenalty-5000 \\widowpenalty-5000 " + two, "a 0 10", "b 0 10");
        House.duePages(none + "\\clubpenalty-5000 \\widowpenalty-4999 " + two, "a 0 10 b 0 22");
        // Behind a hyphen.
        String hyphen = "\\parindent0pt\\pretolerance-1 \\hyphenpenalty-10000 \\exhyphenpenalty-10000 \\brokenpenalty-10000 ";
        House.duePages(none + hyphen + "a\\-b", "a 0 10 - 5 10", "b 0 10");
        House.duePages(none + hyphen + "a-b", "a 0 10 - 5 10", "b 0 10");
        House.duePages(none + hyphen + two, "a 0 10 b 0 22");
        // No penalty if the sum is 0: no item comes.
        String pair = "\\noindent\\kern0pt\\penalty-10000\\kern0pt\\par";
        House.much(none + House.loop(9994, "\\penalty0") + pair, 0);
        House.much(none + House.loop(9995, "\\penalty0") + pair, 200001);
        House.much(none + House.loop(9993, "\\penalty0") + "\\interlinepenalty1 " + pair, 0);
        House.much(none + House.loop(9994, "\\penalty0") + "\\interlinepenalty1 " + pair, 200001);
        House.much(none + House.loop(9994, "\\penalty0") + "\\clubpenalty7 \\widowpenalty-7 " + pair, 0);
        House.much(none + House.loop(9994, "\\penalty0") + "\\clubpenalty1 " + pair, 200001);
        about("\\vbox{" + none + two + "}", 3, 3 + 4 + 4);
        about("\\vbox{" + two + "}", 3, 3 + 4 + 4);
        // None behind the last line.
        House.duePages("\\interlinepenalty-10000 \\parindent0pt a\\par b", "a 0 10 b 0 22");
    }

    private static void lineBoxes() {
        // leftskip, rightskip and parfillskip give and take in each line what they have.
        String line = "\\parindent0pt\\hsize105pt";
        House.duePages(line + "\\leftskip0pt plus1fil a", "a 50 10");
        House.duePages(line + "\\leftskip0pt plus1fil\\rightskip0pt plus1fil\\parfillskip0pt a", "a 50 10");
        House.duePages(line + "\\leftskip0pt plus3fil\\rightskip0pt plus1fil\\parfillskip0pt a", "a 75 10");
        House.duePages(line + "\\leftskip0pt plus1fill\\rightskip0pt plus1fil\\parfillskip0pt a", "a 100 10");
        House.duePages(line + "\\leftskip0pt plus1fil\\rightskip0pt plus1fill\\parfillskip0pt a", "a 0 10");
        House.duePages(line + "\\leftskip0pt plus1fil\\parfillskip0pt plus3fil a", "a 25 10");
        House.duePages(line + "\\leftskip0pt plus1fil\\parfillskip0pt plus1fill a", "a 0 10");
        House.duePages(line + "\\leftskip0pt plus1pt\\parfillskip5pt plus1pt a", "a 47.5 10");
        line = "\\parindent0pt\\hsize15pt";
        House.duePages(line + "\\leftskip10pt minus10pt\\parfillskip10pt minus10pt a", "a 5 10");
        House.duePages(line + "\\leftskip10pt minus10pt\\parfillskip10pt minus30pt a", "a 7.5 10");
        House.duePages(line + "\\leftskip10pt minus10pt\\parfillskip0pt\\rightskip10pt minus30pt a", "a 7.5 10");
        // The hyphen at the end of a line is that of its font.
        Metrics m = new Metrics().plain();
        m.characters.set(',' - 33, new int[] {2, 16, 0, 0});
        House h45 = new House();
        h45.give(0, m.bytes());
        House.due("a hyphen", h45.run("\\font\\f=0 \\font\\g=0 at5pt\\f\\leftskip0pt plus1fil\\pretolerance-1 \\hyphenpenalty-10000 "
            + "\\parindent0pt\\hsize100pt\\parfillskip0pt\\noindent\\vrule height1pt width1pt\\g\\-\\f\\-\\vrule height1pt\\par"), 0);
        // The reader of files takes each character as 5pt wide, so what comes behind the first hyphen is 2.5pt further right.
        House.due("hyphens of 2.5pt and 5pt", h45.pages().get(0), "rule 96.5 10 1 1 - 97.5 10 - 97.5 22 rule 102.1 34 0.4 1");
        House.dueCount("\\hsize50pt\\setbox1\\vbox{\\noindent a}\\count1=\\wd1 ", 3276800);
        about("\\leftskip0pt\\rightskip0pt\\noindent a", 3, 4);
        about("\\leftskip1pt plus1fil\\noindent a\\-a\\penalty5 a", 3, 6);
        // What a line has counts also if it has a fault.
        House h = House.ran("\\hsize1073741823sp\\noindent\\kern-1sp\\penalty-10000\\kern0pt\\par", 1600001);
        House.due("lines that were broken", h.house.about(4), 2);
        House.due("nodes", h.house.about(7), 2);
        House.due("boxes", h.house.about(2), 0);
        // A page that a line or a penalty ends is shipped before the next line is packed.
        String tall = "\\vsize15pt\\hsize1073741823sp\\hbox{a}";
        h = House.ran(tall + "\\noindent\\penalty-10000\\vrule width-1sp\\par", 1600001);
        House.due("shipped by the penalty", h.house.about(1), 1);
        h = House.ran("\\clubpenalty0 \\widowpenalty0 " + tall + "\\noindent\\penalty-10000\\vrule width-1sp\\par", 1600001);
        House.due("no penalty", h.house.about(1), 0);
        h = House.ran("\\clubpenalty0 \\widowpenalty0 " + tall + "\\noindent\\penalty-10000\\hbox{}\\penalty-10000\\vrule width-1sp\\par", 1600001);
        House.due("shipped by the second line", h.house.about(1), 1);
        h = House.ran("\\hsize1073741823sp\\noindent\\penalty-10000\\vrule width-1sp\\par", 1600001);
        House.due("lines that were broken", h.house.about(4), 2);
        House.due("the first line is a box", h.house.about(2), 1);
        House.due("its items", h.house.about(3), 2);
        h = House.ran("\\hsize1073741823sp\\pretolerance-1 \\hyphenpenalty-10000 \\noindent\\kern-327681sp\\-\\kern0pt\\par", 1600001);
        House.due("lines that ended at a hyphen", h.house.about(6), 1);
    }
}
