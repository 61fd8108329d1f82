import java.io.ByteArrayOutputStream;

/** The boundaries of pages and of the file: frames, breaks, costs, what is shipped, its faults, and every byte. */
public final class PageBoundsTest {
    public static void main(String[] args) {
        frames();
        whenFramesAreTaken();
        breaks();
        costs();
        awful();
        forced();
        lengthAndDepth();
        set();
        dropped();
        mostItems();
        shippedItems();
        marks();
        farMarks();
        largeRules();
        bytes();
        countZero();
        faultOrder();
        endOfRuns();
        wholeFiles();
        moves();
        fontsOfFiles();
        House.close();
    }

    private static void run(String source, int answer) {
        House.dueRun(source, answer);
    }

    private static void pages(String source, String... due) {
        House.duePages(source, due);
    }

    private static void frames() {
        // Height and greatest depth are 0 if they are less; the top may be anything.
        pages("\\vsize0pt\\hbox{a}\\hbox{b}", "a 0 10", "b 0 10");
        pages("\\vsize-1pt\\hbox{a}\\hbox{b}", "a 0 10", "b 0 10");
        pages("\\vsize-16383pt\\hbox{a}\\hbox{b}", "a 0 10", "b 0 10");
        pages("\\topskip-5pt\\hbox{a}", "a 0 5");
        pages("\\topskip4pt\\hbox{a}", "a 0 5");
        pages("\\topskip5pt\\hbox{a}", "a 0 5");
        pages("\\topskip6pt\\hbox{a}", "a 0 6");
        pages("\\topskip6pt plus1fil minus1pt\\vsize7pt\\hbox{a}\\vfil\\penalty-10000", "a 0 6");
        // At the penalty 12.5pt are there with a greatest depth of 0, more if it were less.
        String back = "\\hbox{g}\\penalty0 \\vskip-12pt\\hbox{b}";
        pages("\\vsize16pt\\maxdepth0pt" + back, "g 0 10 b 0 10");
        pages("\\vsize16pt\\maxdepth-5pt" + back, "g 0 10 b 0 10");
        pages("\\vsize12.5pt\\maxdepth-5pt" + back, "g 0 10 b 0 10");
        pages("\\vsize12pt\\maxdepth-5pt" + back, "g 0 10", "b 0 10");
        pages("\\vsize12pt\\maxdepth1pt" + back, "g 0 10 b 0 10");
    }

    private static void whenFramesAreTaken() {
        pages("\\topskip20pt\\vskip1pt\\penalty0 \\topskip10pt\\hbox{a}\\topskip30pt", "a 0 10");
        pages("\\hbox{a}\\topskip30pt\\penalty-10000\\topskip40pt\\hbox{b}", "a 0 10", "b 0 40");
        pages("\\hbox{a}\\topskip30pt\\penalty-10000\\kern1pt\\topskip40pt\\hbox{b}", "a 0 10", "b 0 40");
        // The next page's first box is there already when the page before it is shipped.
        pages("\\vsize30pt\\hbox{a}\\hbox{b}\\topskip20pt\\hbox{c}\\topskip25pt\\hbox{d}", "a 0 10 b 0 22", "c 0 25", "d 0 25");
        pages("\\vsize30pt\\hbox{a}\\hbox{b}\\hbox{c}\\topskip25pt\\vsize40pt\\hbox{d}\\hbox{e}", "a 0 10 b 0 22",
            "c 0 25 d 0 37", "e 0 25");
        // Within a group, too.
        pages("{\\topskip20pt\\hbox{a}}\\penalty-10000\\hbox{b}", "a 0 20", "b 0 10");
    }

    private static void breaks() {
        String full = "\\vsize20pt\\baselineskip0pt\\lineskip0pt\\lineskiplimit-99pt";
        // A box on the next page where there is a break before it, on the same one where there is none.
        pages(full + "\\hbox{a}\\vskip12pt\\hbox{b}", "a 0 10", "b 0 10");
        pages(full + "\\hbox{a}\\kern6pt\\vskip6pt\\hbox{b}", "a 0 10", "b 0 10");
        pages(full + "\\hbox{a}\\penalty0 \\kern12pt\\hbox{b}", "a 0 10", "b 0 10");
        pages(full + "\\hbox{a}\\penalty9999 \\kern12pt\\hbox{b}", "a 0 10", "b 0 10");
        String none = "\\hbox{a}\\hrule height0pt\\penalty10000 ";
        pages(full + none + "\\kern12pt\\hrule height1pt width1pt", "a 0 10 rule 0 23 1 1");
        pages(full + none + "\\kern12pt\\penalty10000 \\hrule height1pt width1pt", "a 0 10 rule 0 23 1 1");
        pages(full + none + "\\vskip12pt\\hrule height1pt width1pt", "a 0 10 rule 0 23 1 1");
        pages(full + "\\hbox{a}\\penalty10000 \\kern0pt\\kern12pt\\hrule height1pt width1pt", "a 0 10 rule 0 23 1 1");
        pages(full + "\\hbox{a}\\penalty10000 \\vskip0pt\\vskip12pt\\hrule height1pt width1pt", "a 0 10 rule 0 23 1 1");
        pages(full + "\\hbox{a}\\hrule height0pt\\vskip12pt\\hrule height1pt width1pt", "a 0 10", "rule 0 10 1 1");
        pages(full + none + "\\kern12pt\\vskip0pt\\hrule height1pt width1pt", "a 0 10", "rule 0 10 1 1");
        // A kern at the end is a break when the last glue comes behind it.
        pages("\\vsize20pt\\hbox{a}\\penalty10000 \\kern15pt", "a 0 10");
        House.due("pages", House.ran("\\vsize20pt\\hbox{a}\\penalty10000 \\kern15pt", 0).house.about(1), 1);
    }

    private static void costs() {
        // Rules, so that no glue comes between: a is 1pt wide, b 2pt, c 3pt.
        String a = "\\hrule height5pt width1pt";
        String b = "\\hrule height5pt width2pt";
        String c = "\\hrule height5pt width3pt";
        String first = "rule 0 10 1 5";
        String third = "rule 0 10 3 5";
        String head = "\\vsize45pt" + a;
        String box = "\\kern5pt" + b;
        // Without stretch all have badness 10000, and a cost of 100000 whatever the penalty is: the last one.
        pages(head + "\\penalty-9999 " + box + "\\penalty9999 \\kern45pt" + c, first + " rule 0 20 2 5", third);
        // With stretch of a higher order badness is 0: the least penalty, of several the last one.
        String fil = "\\vskip0pt plus1fil";
        String second = "rule 0 10 2 5";
        pages(head + fil + "\\penalty5 " + box + "\\penalty6 \\kern45pt" + c, first, second, third);
        String both = "\\vskip0pt plus1fil\\vskip0pt plus1fill";
        pages(head + both + "\\penalty5 " + box + "\\penalty6 \\kern45pt" + c, first, second, third);
        pages(head + both.replace("fill", "filll") + "\\penalty5 " + box + "\\penalty6 \\kern45pt" + c, first, second, third);
        both = "\\vskip0pt plus1fill\\vskip0pt plus1filll";
        pages(head + both + "\\penalty5 " + box + "\\penalty6 \\kern45pt" + c, first, second, third);
        pages(head + fil + "\\penalty6 " + box + "\\penalty6 \\kern45pt" + c, first + " rule 0 45 2 5", third);
        pages(head + fil + "\\penalty7 " + box + "\\penalty6 \\kern45pt" + c, first + " rule 0 45 2 5", third);
        pages(head + fil + "\\penalty-6 " + box + "\\penalty-5 \\kern45pt" + c, first, second, third);
        // Badness and penalty together: at 15pt of 30pt with a stretch of 15pt badness 100 and the penalty, then 0.
        String some = "\\vsize30pt" + a + "\\penalty10000 \\vskip5pt plus15pt\\penalty";
        String more = "\\vskip10pt" + b + "\\penalty";
        pages(some + "-100 " + more + "1 \\kern90pt" + c, first, second, third);
        pages(some + "-100 " + more + "0 \\kern90pt" + c, first + " rule 0 30 2 5", third);
        pages(some + "-101 " + more + "0 \\kern90pt" + c, first, second, third);
        // Badness 10000 makes it 100000, below that the penalty is added.
        String far = "\\vsize1000pt" + a + "\\penalty10000 \\vskip0pt plus";
        String rest = "\\kern985pt" + b + "\\penalty9999 \\kern90pt" + c;
        pages(far + "220pt\\penalty-9999 " + rest, first + " rule 0 1000 2 5", third);
        pages(far + "229pt\\penalty-9999 " + rest, first, second + " rule 0 105 3 5");
        pages(far + "229pt\\penalty1950 " + rest, first + " rule 0 1000 2 5", third);
        pages(far + "229pt\\penalty1900 " + rest, first, second + " rule 0 105 3 5");
    }

    private static void awful() {
        // What is missing may be as much as the shrink, and no more.
        String head = "\\baselineskip0pt\\lineskip0pt\\lineskiplimit-99pt\\hbox{a}\\penalty10000 \\vskip5pt minus3pt\\hbox{b}\\penalty";
        pages("\\vsize12pt" + head + "0 \\kern90pt\\hbox{c}", "a 0 10 b 0 12", "c 0 10");
        pages("\\vsize786431sp" + head + "0 \\kern90pt\\hbox{c}", "a 0 10 b 0 12", "c 0 10");
        pages("\\vsize12pt" + head + "0 \\kern-1pt\\penalty-10000 \\hbox{c}", "a 0 10 b 0 13.0".replace("13.0", "13"), "c 0 10");
        // An awful break is the best one if there is no other, else one before it is.
        String two = "\\hbox{a}\\penalty100 \\kern5pt\\hbox{b}\\penalty0 \\hbox{c}";
        pages("\\vsize10pt\\baselineskip0pt\\lineskiplimit-99pt" + two, "a 0 10", "b 0 10 c 0 10");
        pages("\\vsize9pt\\baselineskip0pt\\lineskiplimit-99pt" + two, "a 0 10", "b 0 10", "c 0 10");
        // Awful and forced: the cost is awful; the break before it is better.
        pages("\\vsize12pt\\baselineskip0pt\\lineskiplimit-99pt\\hbox{a}\\penalty9999 \\kern9pt\\hbox{b}\\penalty-10000 ", "a 0 10",
            "b 0 10");
        // Stretch of no order helps a page that is too long.
        pages("\\vsize12pt\\baselineskip0pt\\lineskiplimit-99pt\\hbox{a}\\penalty0 \\vskip5pt plus1filll\\hbox{b}", "a 0 10", "b 0 10");
    }

    private static void forced() {
        pages("\\hbox{a}\\penalty-10000 \\hbox{b}", "a 0 10", "b 0 10");
        pages("\\hbox{a}\\penalty-9999 \\hbox{b}", "a 0 10 b 0 22");
        pages("\\hbox{a}\\penalty-10001 \\hbox{b}", "a 0 10", "b 0 10");
        pages("\\hbox{a}\\penalty-2147483647 \\hbox{b}", "a 0 10", "b 0 10");
        pages("\\hbox{a}\\penalty-10000 \\penalty-10000 \\hbox{b}", "a 0 10", "b 0 10");
        pages("\\penalty-10000 \\hbox{a}", "a 0 10");
    }

    private static void lengthAndDepth() {
        // The last depth is no part of the length, up to the greatest depth; what is above is.
        String text = "\\baselineskip0pt\\lineskip0pt\\lineskiplimit-99pt\\hbox{g}\\penalty0 \\kern-3pt\\hbox{a}\\penalty-10000 ";
        pages("\\vsize10pt\\maxdepth2.5pt" + text, "g 0 10 a 0 7");
        pages("\\vsize10pt\\maxdepth2.4pt" + text, "g 0 10", "a 0 10");
        pages("\\vsize10.1pt\\maxdepth2.4pt" + text, "g 0 10 a 0 7");
        // Glue and kerns add it; penalties leave it.
        pages("\\vsize12pt\\hbox{g}\\penalty10000 \\vskip0pt\\penalty0 \\kern-12pt\\hbox{a}", "g 0 10", "a 0 10");
        pages("\\vsize12.5pt\\hbox{g}\\penalty10000 \\vskip0pt\\penalty0 \\kern-12pt\\hbox{a}", "g 0 10 a 0 10");
        pages("\\vsize12pt\\hbox{g}\\penalty10000 \\kern0pt\\penalty0 \\kern-12pt\\hbox{a}", "g 0 10", "a 0 10");
        pages("\\vsize10pt\\hbox{g}\\penalty10000 \\penalty0 \\kern-12pt\\hbox{a}", "g 0 10 a 0 10");
        // Sums are exact, whatever they come to.
        String large = "\\hbox{a}\\penalty10000 " + "\\kern16383pt".repeat(5) + "\\kern-16383pt".repeat(5)
            + "\\hrule height1pt width1pt\\penalty-10000 ";
        pages(large, "a 0 10 rule 0 11 1 1");
        String stretch = "\\vsize110pt\\baselineskip0pt\\lineskip0pt\\lineskiplimit-99pt\\hbox{a}\\penalty10000 "
            + "\\vskip0pt plus16383fil".repeat(4) + "\\hbox{b}" + "\\penalty10000\\vskip0pt plus16383fil".repeat(4)
            + "\\hbox{c}\\penalty-10000 ";
        pages(stretch, "a 0 10 b 0 60 c 0 110");
        // More than 64 bits: stretch and excess are both above 2^32.
        String more = "\\vskip0pt plus16383fil";
        pages("\\vsize16383pt\\hrule height5pt width1pt\\penalty10000 \\kern-16383pt\\kern-16383pt\\kern-8191.5pt" + more.repeat(4)
            + "\\hrule height1pt width2pt\\penalty10000 " + more.repeat(4) + "\\kern-16383pt\\kern-8191.5pt\\hrule height0pt width0pt"
            + "\\penalty-10000 ", "rule 0 10 1 5 rule 0 5.5 2 1");
        pages("\\vsize16383pt\\hrule height5pt width1pt\\penalty10000 \\kern-16383pt\\kern-4097pt" + more.repeat(2)
            + "\\hrule height1pt width2pt\\penalty10000 " + more.repeat(6) + "\\kern-16383pt\\kern-16383pt\\kern-12286pt"
            + "\\hrule height0pt width0pt\\penalty-10000 ", "rule 0 10 1 5 rule 0 7 2 1");
        pages("\\vsize16383pt\\hrule height5pt width1pt\\penalty10000 " + more.repeat(9) + "\\hrule height1pt width2pt\\penalty10000 "
            + more.repeat(9) + "\\hrule height0pt width0pt\\penalty-10000 ", "rule 0 10 1 5 rule 0 8197 2 1");
        String shrink = "\\vsize60pt\\baselineskip0pt\\lineskip0pt\\lineskiplimit-99pt\\hbox{a}\\penalty10000 \\kern100pt"
            + "\\vskip0pt minus16383pt".repeat(4) + "\\hbox{b}" + "\\penalty10000\\vskip0pt minus16383pt".repeat(4)
            + "\\hbox{c}\\penalty-10000 ";
        pages(shrink, "a 0 10 b 0 85 c 0 60");
    }

    private static void set() {
        // parskip, baselineskip and lineskip give and take as they are.
        String two = "\\parindent0pt\\hbox{a}\\noindent b\\par\\penalty10000 \\vskip0pt plus1fil minus3pt\\hrule height1pt width1pt\\penalty-10000 ";
        pages("\\vsize43pt\\parskip0pt plus1fil" + two, "a 0 10 b 0 32 rule 0 43 1 1");
        pages("\\vsize43pt\\parskip0pt plus1fill" + two, "a 0 10 b 0 42 rule 0 43 1 1");
        pages("\\vsize43pt\\parskip0pt plus1pt" + two, "a 0 10 b 0 22 rule 0 43 1 1");
        pages("\\vsize19pt\\parskip0pt minus3pt" + two, "a 0 10 b 0 20 rule 0 19 1 1");
        pages("\\vsize43pt\\baselineskip12pt plus1fil\\parskip0pt" + two, "a 0 10 b 0 32 rule 0 43 1 1");
        pages("\\vsize43pt\\baselineskip12pt plus1fill\\parskip0pt" + two, "a 0 10 b 0 42 rule 0 43 1 1");
        pages("\\vsize19pt\\baselineskip12pt minus3pt\\parskip0pt" + two, "a 0 10 b 0 20 rule 0 19 1 1");
        pages("\\vsize43pt\\baselineskip0pt\\lineskip7pt plus1fil\\parskip0pt" + two, "a 0 10 b 0 32 rule 0 43 1 1");
        pages("\\vsize19pt\\baselineskip0pt\\lineskip7pt minus3pt\\parskip0pt" + two, "a 0 10 b 0 20 rule 0 19 1 1");
        // parskip has 65536 of stretch at first: as much as the other glue.
        House.dueY("\\parindent0pt\\vsize40pt\\hbox{a}\\noindent b\\par\\penalty10000 \\vskip0pt plus65536sp\\hrule height1pt width1pt"
            + "\\penalty-10000 ", 655360, 1998848, 2621440);
        String head = "\\baselineskip0pt\\lineskip0pt\\lineskiplimit-99pt\\hbox{a}\\penalty10000 ";
        String end = "\\hbox{c}\\penalty-10000 ";
        pages("\\vsize40pt" + head + "\\vskip0pt plus1pt\\hbox{b}\\penalty10000 \\vskip0pt plus2pt" + end, "a 0 10 b 0 20 c 0 40");
        pages("\\vsize40pt" + head + "\\vskip0pt plus9filll\\hbox{b}\\penalty10000 \\vskip0pt plus9fill" + end,
            "a 0 10 b 0 40 c 0 40");
        pages("\\vsize40pt" + head + "\\vskip0pt plus1fil\\hbox{b}\\penalty10000 \\vskip0pt plus1fill" + end, "a 0 10 b 0 10 c 0 40");
        pages("\\vsize40pt" + head + "\\vskip0pt\\hbox{b}\\penalty10000 \\vskip0pt" + end, "a 0 10 b 0 10 c 0 10");
        pages("\\vsize40pt" + head + "\\kern45pt\\vskip0pt minus10pt\\hbox{b}\\penalty10000 \\vskip0pt minus5pt" + end,
            "a 0 10 b 0 45 c 0 40");
        // It must shrink by more: times less the total.
        String rules = "\\hbox{a}\\penalty10000 \\vskip0pt minus10pt\\kern45pt\\hrule height5pt width2pt\\penalty10000 "
            + "\\vskip0pt minus5pt\\hrule height5pt width3pt\\penalty-10000 ";
        pages("\\vsize50pt" + rules, "a 0 10 rule 0 50 2 5 rule 0 50 3 5");
        pages("\\vsize30pt" + rules, "a 0 10 rule 0 50 2 5 rule 0 50 3 5");
        // To the nearest integer, halves away from 0.
        String rule = "\\hrule height0sp depth1sp width1pt\\kern-1sp";
        String first = "\\topskip0pt\\baselineskip0pt" + rule + "\\penalty10000 ";
        House.dueY("\\vsize1sp" + first + "\\vskip0pt plus1sp" + rule + "\\penalty10000 \\vskip0pt plus1sp" + rule + "\\penalty-10000 ",
            1, 2, 2);
        House.dueY("\\vsize3sp" + first + "\\vskip0pt plus1sp" + rule + "\\penalty10000 \\vskip0pt plus1sp" + rule + "\\penalty-10000 ",
            1, 3, 4);
        House.dueY("\\vsize0sp" + first + "\\kern1sp\\vskip0pt minus1sp" + rule + "\\penalty10000 \\vskip0pt minus1sp" + rule
            + "\\penalty-10000 ", 1, 1, 1);
        House.dueY("\\vsize0sp" + first + "\\kern3sp\\vskip0pt minus3sp" + rule + "\\penalty10000 \\vskip0pt minus3sp" + rule
            + "\\penalty-10000 ", 1, 2, 1);
    }

    private static void dropped() {
        pages("\\vskip99pt\\kern99pt\\penalty-10000 \\penalty5 \\hbox{a}", "a 0 10");
        pages("\\hbox{a}\\penalty-10000 \\vskip99pt\\kern99pt\\penalty-10000 \\hbox{b}", "a 0 10", "b 0 10");
        pages("\\hrule height1pt width1pt\\penalty-10000 \\vskip9pt", "rule 0 10 1 1");
        pages("\\vskip9pt");
        pages("");
        pages("\\hbox{}", "");
        House.due("a page without marks", House.ran("\\hbox{}", 0).house.about(1), 1);
        House.due("no page of what is dropped", House.ran("\\vskip1pt\\penalty-10000\\kern1pt\\penalty-10000 ", 0).house.about(1), 0);
    }

    private static void mostItems() {
        House.much(House.loop(9998, "\\penalty0"), 0);
        House.much(House.loop(9999, "\\penalty0"), 200001);
        House.much(House.loop(10000, "\\penalty0") + "\\end", 200001);
        House.much(House.loop(10000, "\\penalty0") + "\\u", 1100001);
        House.much(House.loop(10001, "\\penalty0") + "\\u", 200001);
        // parskip, the glue between lines, lines and penalties come to the list, too.
        House.much(House.loop(9995, "\\penalty0") + "\\noindent\\kern0pt\\par\\kern0pt\\u", 1100001);
        House.much(House.loop(9997, "\\penalty0") + "\\noindent\\kern0pt\\par\\kern0pt\\u", 1100001);
        House.much(House.loop(9998, "\\penalty0") + "\\noindent\\kern0pt\\par\\kern0pt\\u", 200001);
        // A page that ends with an item before it is shipped still.
        House h = House.much("\\hbox{a}" + House.loop(9998, "\\kern0pt") + "\\penalty-10000\\kern0pt", 200001);
        House.due("the page before", h.house.about(1), 1);
        // Items that were on pages count as well.
        House.much(House.loop(2499, "\\hrule\\penalty-10000 \\kern0pt\\kern0pt"), 0);
        House.much(House.loop(2500, "\\hrule\\penalty-10000 \\kern0pt\\kern0pt"), 200001);
    }

    private static void shippedItems() {
        // 20 boxes with 19 glues and the last one, and 20 times 998 items within, are 20000.
        String head = "\\vsize10000pt\\setbox1\\hbox{";
        String twenty = "\\copy1".repeat(20);
        House.much(head + House.loop(998, "\\kern0pt") + "}" + twenty, 0);
        House.much(head + House.loop(998, "\\kern0pt") + "}" + twenty + "\\kern0pt", 1700001);
        House.much(head + House.loop(998, "\\kern0pt") + "}\\kern0pt\\vskip0pt" + twenty, 0);
        House.much(head + House.loop(998, "\\kern0pt") + "}" + twenty + "\\vskip0pt", 1700001);
        // Boxes within boxes count with all that they have.
        String nested = "\\setbox2\\hbox{\\copy1\\copy1\\copy1\\copy1\\copy1\\copy1\\copy1\\copy1\\copy1\\copy1}\\copy2";
        House.much(head + House.loop(1998, "\\kern0pt") + "}" + nested + "\\kern0pt".repeat(8), 0);
        House.much(head + House.loop(1998, "\\kern0pt") + "}" + nested + "\\kern0pt".repeat(9), 1700001);
        // A box may have more than that in all if it is not shipped.
        House.much(head + House.loop(1998, "\\kern0pt") + "}" + nested.replace("\\copy2", "\\setbox3\\hbox{\\copy2\\copy2\\copy2}"), 0);
    }

    private static void marks() {
        String rule = "\\vrule height1pt";
        House.much("\\hbox{" + House.loop(3000, rule) + "}", 0);
        House.much("\\hbox{" + House.loop(3001, rule) + "}", 1700001);
        House.much("\\hbox{" + House.loop(3000, rule) + "\\vrule width0pt height1pt}", 0);
        House.much("\\hbox{" + House.loop(3000, rule) + "a}", 1700001);
        House.much("\\setbox1\\hbox{" + House.loop(1000, rule) + "}\\copy1\\copy1\\copy1", 0);
        House.much("\\setbox1\\hbox{" + House.loop(1000, rule) + "}\\copy1\\copy1\\copy1\\hbox{a}", 1700001);
        House h = House.much("\\setbox1\\hbox{" + House.loop(3000, rule) + "}\\copy1\\penalty-10000 \\hbox{a\\copy1}", 1700001);
        House.due("the page before is there", h.house.about(1), 1);
        House.due("the page before is there", h.pages().size(), 1);
    }

    private static void farMarks() {
        String most = "1000000000sp";
        String more = "1000000001sp";
        String rule = "\\vrule height1pt width1sp";
        run("\\hbox{\\kern" + most + rule + "}", 0);
        run("\\hbox{\\kern" + more + rule + "}", 1600001);
        run("\\hbox{\\kern-" + most + rule + "}", 0);
        run("\\hbox{\\kern-" + more + rule + "}", 1600001);
        // A character's width counts, a rule's does not.
        run("\\hbox{\\kern999672320sp a}", 0);
        run("\\hbox{\\kern999672321sp a}", 1600001);
        run("\\hbox{\\kern-1000000000sp a}", 0);
        run("\\hbox{\\kern999999999sp\\vrule height1pt width5sp}", 0);
        Metrics m = new Metrics().plain();
        m.widths.set(1, 0xfff80000);
        House h = new House();
        h.give(0, m.bytes());
        House.due("x with a width below 0", h.run("\\font\\f=0 \\f\\hbox{\\kern-999672320sp a}"), 0);
        House.due("x with a width below 0", h.run("\\font\\f=0 \\f\\hbox{\\kern-999672321sp a}"), 1600001);
        // y.
        run("\\topskip0pt\\hbox{\\lower" + most + "\\hbox{a}}", 0);
        run("\\topskip0pt\\hbox{\\lower" + more + "\\hbox{a}}", 1600001);
        String up = "\\topskip0pt\\baselineskip0pt\\lineskiplimit-9999pt\\hbox{}\\penalty10000 \\kern-";
        run(up + most + "\\hbox{a}", 0);
        run(up + more + "\\hbox{a}", 1600001);
        // Of a rule it is the y below.
        run("\\topskip0pt\\hrule height1sp depth999999999sp width1pt", 0);
        run("\\topskip0pt\\hrule height1sp depth" + most + " width1pt", 1600001);
        run(up + more + "\\hrule height0sp depth1sp width1sp", 0);
        run(up + "1000000002sp\\hrule height0sp depth1sp width1sp", 1600001);
        // What is no mark may be anywhere.
        run("\\hbox{\\kern" + more + "\\hbox{}\\vrule width0pt height1pt}", 0);
        run("\\hbox{\\kern" + more + "\\kern-5sp a}", 1600001);
        House.due("nothing of the page is in the file", House.ran("\\hbox{a\\kern" + more + rule + "}", 1600001).house.size(), 56);
    }

    private static void largeRules() {
        run("\\hrule height1pt width1000000000sp", 0);
        run("\\hrule height1pt width1000000001sp", 1600001);
        run("\\hrule width1000000001sp height0pt", 0);
        String up = "\\topskip0pt\\hbox{}\\penalty10000 \\kern-500000000sp";
        run(up + "\\hrule width1pt height1000000000sp", 0);
        run(up + "\\hrule width1pt height1000000001sp", 1600001);
        run(up + "\\hrule width1pt height1000000001sp depth-1sp", 0);
        run(up + "\\hrule width1pt height600000000sp depth400000001sp", 1600001);
        run("\\setbox1\\hbox{\\kern1000000001sp}\\hrule height1pt\\box1 ", 1600001);
        run("\\setbox1\\hbox{\\kern1000000000sp}\\hrule height1pt\\box1 ", 0);
    }

    /** Where 248 is in the file: so many bytes has it without its end. */
    private static int content(House h) {
        byte[] b = h.file();
        int at = b.length - 1;
        while ((b[at] & 255) == 223) {
            at--;
        }
        return (b[at - 4] & 255) << 24 | (b[at - 3] & 255) << 16 | (b[at - 2] & 255) << 8 | b[at - 1] & 255;
    }

    private static void bytes() {
        // Rules at one place have 9 bytes each; a page of 3000 has 27000, and 48 or 52 with a move down.
        String box = "\\topskip0pt\\setbox1\\hbox{" + House.loop(2990, "\\vrule height0sp depth1sp width1sp\\kern-1sp") + "}";
        String seven = "\\copy1\\penalty-10000".repeat(7);
        int page = content(House.much(box + "\\copy1\\penalty-10000 ", 0)) - 15;
        int left = 200000 - 15 - 7 * page;
        int frame = content(House.much("\\topskip0pt\\hbox{\\kern-327680sp\\hbox{a}}", 0)) - 15;
        House.due("what is left is for one page with characters", left > frame + 100 ? 1 : 0, 1);
        // A page that has one a, and others behind it.
        int rules = (left - frame) / 9 - 10;
        int letters = left - frame - 9 * rules;
        String last = "\\setbox2\\hbox{" + House.loop(rules, "\\vrule height0sp depth1sp width1sp\\kern-1sp") + "}";
        House h = House.much(box + last + seven + "\\hbox{\\copy2 a}\\penalty-10000 ", 0);
        int base = content(h);
        letters = 200000 - base;
        House.due("some letters are missing", letters >= 0 && letters < 200 ? 1 : 0, 1);
        h = House.much(box + last + seven + "\\hbox{\\copy2 " + "a".repeat(letters + 1) + "}\\penalty-10000 ", 0);
        House.due("just 200000 bytes", content(h), 200000);
        House.due("pages", h.house.about(1), 8);
        h = House.much(box + last + seven + "\\hbox{\\copy2 " + "a".repeat(letters + 2) + "}\\penalty-10000 ", 1700001);
        House.due("pages", h.house.about(1), 7);
        House.due("pages in the file", h.pages().size(), 7);
        House.due("bytes without the page", content(h), 15 + 7 * page);
        House.due("count 0 has not grown", h.house.count(0), 7);
    }

    private static void countZero() {
        run("\\count0=2147483646 \\hbox{a}", 0);
        House.due("count 0", House.ran("\\count0=2147483646 \\hbox{a}", 0).house.count(0), 2147483647);
        House h = House.ran("\\count0=2147483647 \\hbox{a}", 700001);
        House.due("count 0", h.house.count(0), 2147483647);
        House.due("no page", h.house.about(1), 0);
        House.due("nothing in the file", h.house.size(), 56);
        h = House.ran("\\count0=-5 \\hbox{a}\\penalty-10000 \\hbox{b}\\penalty-10000 {\\count0=8 \\hbox{c}\\penalty-10000 }", 0);
        House.due("count 0 grows globally", h.house.count(0), 9);
        h = House.ran("{\\count0=8 \\hbox{c}\\penalty-10000 \\count0=1 }", 0);
        House.due("and stays", h.house.count(0), 9);
        run("\\count0=2147483647 \\vskip1pt\\penalty-10000 ", 0);
    }

    private static void faultOrder() {
        String many = House.loop(3001, "\\vrule height1pt width1sp");
        String far = "\\kern1000000001sp\\vrule height1pt";
        // 17 for marks before 16, 16 before 7.
        House.much("\\hbox{" + far + many + "}", 1700001);
        House.much("\\count0=2147483647 \\hbox{" + many + "}", 1700001);
        run("\\count0=2147483647 \\hbox{" + far + "}", 1600001);
        // 17 for items before 16.
        House.much("\\vsize10000pt\\setbox1\\hbox{" + House.loop(999, "\\kern0pt") + "}\\hbox{" + far + "}" + "\\copy1".repeat(20), 1700001);
        // parskip comes before the indent is packed.
        House.much("\\vsize0pt\\count0=2147483647 " + House.loop(2999, "\\setbox1\\hbox{}") + "\\hbox{}a", 700001);
        House.much("\\vsize0pt" + House.loop(2999, "\\setbox1\\hbox{}") + "\\hbox{}a", 200001);
        // A fault in shipping ends all, within what ships.
        run("\\hbox{" + far + "}\\penalty-10000\\u", 1600001);
        run("\\hbox{" + far + "}\n\\penalty-10000\n\\u", 1600002);
        run("\\hbox{" + far + "}\\u", 1100001);
        run("\\hbox{" + far + "}{", 900001);
    }

    private static void endOfRuns() {
        pages("\\hbox{a}\\end\\hbox{b}", "a 0 10");
        run("{\\end", 900001);
        run("\\iftrue\\end", 900001);
        run("\\iftrue{\\end", 900001);
        run("\\hbox{a}{", 900001);
        House h = House.ran("\\hbox{a}{", 900001);
        House.due("nothing is shipped then", h.house.about(1), 0);
        h = House.ran("\\hbox{a}\\penalty-10000\\hbox{b}\\u", 1100001);
        House.due("what was shipped is there", h.house.about(1), 1);
        House.due("what was shipped is there", h.pages().get(0), "a 0 10");
        // The last page is filled below.
        pages("\\vsize100pt\\hbox{a}\\vskip0pt plus9fil\\hbox{b}", "a 0 10 b 0 22");
        pages("\\vsize100pt\\hbox{a}\\vskip0pt plus1fill\\hbox{b}", "a 0 10 b 0 61");
        pages("\\vsize100pt\\hbox{a}\\vskip0pt plus1filll\\hbox{b}", "a 0 10 b 0 100");
        // The last glue does not shrink.
        pages("\\vsize17pt\\hbox{a}\\penalty0 \\hrule width1pt height458752sp\\penalty10000 ", "a 0 10 rule 0 17 1 7");
        pages("\\vsize17pt\\hbox{a}\\penalty0 \\hrule width1pt height458753sp\\penalty10000 ", "a 0 10", "rule 0 10 1 7.0");
        // A new run begins with all as at first.
        House again = House.withFont();
        House.due("much is set", again.run("\\font\\f=0 \\f\\hsize1pt\\vsize1pt\\catcode`Q=14 \\def\\par{\\u}\\count7=5 \\setbox1\\hbox{b}"
            + "\\parindent9pt\\let\\hbox=\\relax\\chardef~=5 \\global\\tolerance5 "), 0);
        House.due("all is as at first", again.run("\\count1=\\catcode`Q\\count2=\\wd1\\count3=\\tolerance\\count4=\\parindent\n\n\\hbox{}"
            + "\\ifx~\\undefined\\count5=1 \\fi\\ifx\\f\\undefined\\count6=1 \\fi"), 0);
        int[] due = {1, 11, 0, 200, 1310720, 1, 1, 0};
        for (int i = 1; i < due.length; i++) {
            House.due("count " + i, again.house.count(i), due[i]);
        }
        House.due("count 0 began at 0", again.house.count(0), 1);
    }

    private static final class Bytes {
        private final ByteArrayOutputStream out = new ByteArrayOutputStream();

        private Bytes put(int... bytes) {
            for (int b : bytes) {
                out.write(b);
            }
            return this;
        }

        private Bytes fours(int... numbers) {
            for (int n : numbers) {
                put(n >> 24, n >> 16, n >> 8, n);
            }
            return this;
        }

        private Bytes font(int number, int size, String name) {
            put(243, number).fours(0x01020304, size, 655360).put(0, name.length());
            for (char c : name.toCharArray()) {
                put(c);
            }
            return this;
        }

        private int size() {
            return out.size();
        }
    }

    private static void wholeFile(String what, House h, Bytes due) {
        byte[] want = due.out.toByteArray();
        byte[] got = h.file();
        House.due(what + ": size", got.length, want.length);
        for (int i = 0; i < Math.min(got.length, want.length); i++) {
            House.due(what + ": byte " + i, got[i] & 255, want[i] & 255);
        }
    }

    private static void end(Bytes b, int last, int v, int h, int pages, Runnable fonts) {
        int post = b.size();
        b.put(248).fours(last, 25400000, 473628672, 1000, v, h).put(0, pages > 0 ? 1 : 0, 0, pages);
        fonts.run();
        b.put(249).fours(post).put(2, 223, 223, 223, 223);
        while (b.size() % 4 != 0) {
            b.put(223);
        }
    }

    private static void wholeFiles() {
        Bytes none = new Bytes().put(247, 2).fours(25400000, 473628672, 1000).put(0);
        end(none, -1, 0, 0, 0, () -> { });
        wholeFile("no pages", House.ran("", 0), none);
        wholeFile("no pages, but boxes", House.ran("\\setbox1\\hbox{a}\\penalty-10000 ", 0), none);
        wholeFile("no pages behind a fault", House.ran("\\hbox{a}\\u", 1100001), none);
        Bytes single = new Bytes().put(247, 2).fours(25400000, 473628672, 1000).put(0);
        single.put(139).fours(0, 0, 0, 0, 0, 0, 0, 0, 0, 0, -1).put(141);
        single.put(159, 10, 0, 0, 145, 3, 0, 0).put(137).fours(65536, 131072).put(142, 140);
        end(single, 15, 655360, 3 * 65536, 1, () -> { });
        String rule = "\\moveright3pt\\hbox{\\vrule width2pt height1pt}";
        wholeFile("one rule", House.ran(rule, 0), single);
        House twice = House.ran("\\hbox{\\kern500pt a}\\kern300pt\\hbox{b}", 0);
        House.due("another run", twice.run(rule), 0);
        wholeFile("one rule in a second run", twice, single);
        Bytes two = new Bytes().put(247, 2).fours(25400000, 473628672, 1000).put(0);
        two.put(139).fours(-7, 1, 2, 3, 4, 5, 6, 7, 8, -9, -1).put(141);
        two.put(159, 10, 0, 0).font(0, 655360, "font0").put(171, 'a', 'b', 142, 140);
        int second = two.size();
        two.put(139).fours(-6, 1, 2, 3, 4, 5, 6, 7, 8, -9, 15).put(141);
        two.put(159, 10, 0, 0, 171, 'c', 142, 140);
        end(two, second, 655360, 655360, 2, () -> two.font(0, 655360, "font0"));
        wholeFile("two pages", House.ran("\\count0=-7 \\count1=1 \\count2=2 \\count3=3 \\count4=4 \\count5=5 \\count6=6 \\count7=7 "
            + "\\count8=8 \\count9=-9 \\count10=10 \\hbox{ab}\\penalty-10000\\hbox{c}", 0), two);
        Bytes one = new Bytes().put(247, 2).fours(25400000, 473628672, 1000).put(0);
        one.put(139).fours(-7, 0, 0, 0, 0, 0, 0, 0, 0, 9, -1).put(141);
        one.put(159, 10, 0, 0).font(0, 655360, "font0").put(171, 'a', 'b').font(2, 327680, "font0").put(173, 'c');
        one.put(145, 1, 0, 0).put(137).fours(65536, 131072).put(142, 140);
        end(one, 15, 655360, 2 * 327680 + 163840 + 65536, 1, () -> one.font(2, 327680, "font0").font(0, 655360, "font0"));
        wholeFile("one page", House.ran("\\font\\h=0 at 7pt\\font\\g=0 at 5pt\\count0=-7 \\count9=9 \\count10=10 "
            + "\\hbox{ab\\g c\\kern1pt\\vrule width2pt height1pt}", 0), one);
        // The greatest v and h are 0 at least.
        Bytes less = new Bytes().put(247, 2).fours(25400000, 473628672, 1000).put(0);
        less.put(139).fours(0, 0, 0, 0, 0, 0, 0, 0, 0, 0, -1).put(141);
        less.put(159, 255, 0, 0, 145, 255, 0, 0).put(137).fours(65536, 65536).put(142, 140);
        end(less, 15, 0, 0, 1, () -> { });
        wholeFile("left and above", House.ran("\\topskip0pt\\baselineskip0pt\\lineskiplimit-99pt\\hbox{}\\penalty10000 \\kern-1pt"
            + "\\moveleft1pt\\hbox{\\vrule width1pt height1pt}", 0), less);
        House.due("a file that four divides needs four bytes 223", House.ran("", 0).house.size() % 4, 0);
    }

    private static void code(String source, String due) {
        House.due(source, String.join(" ", new Printed(House.ran(source, 0).file()).codes), due);
    }

    private static void moves() {
        String rule = "\\vrule height0sp depth1sp width1sp\\kern-1sp";
        String head = "\\topskip-1pt\\hbox{";
        int[][] rows = {{1, 143}, {127, 143}, {128, 144}, {32767, 144}, {32768, 145}, {8388607, 145}, {8388608, 146},
            {1000000000, 146}, {-1, 143}, {-128, 143}, {-129, 144}, {-32768, 144}, {-32769, 145}, {-8388608, 145}, {-8388609, 146},
            {-1000000000, 146}};
        for (int[] row : rows) {
            code(head + "\\kern" + row[0] + "sp" + rule + "}", "157 " + row[1] + " 137");
            if (row[0] > -600000000 && row[0] < 600000000) {
                int w = row[1] + 5;
                code(head + ("\\kern" + row[0] + "sp" + rule).repeat(2) + "}", "157 " + w + " 137 147 137");
            }
        }
        // Down likewise.
        String lying = "\\hrule height0sp depth1sp width1sp\\kern-1sp";
        for (int[] row : rows) {
            if (row[0] != 1000000000) {
                code("\\topskip0pt\\vbox{\\hrule height0sp depth2sp width1sp\\kern-2sp\\kern" + row[0] + "sp\\kern1sp" + lying
                    + "\\kern" + (-1 - row[0]) + "sp}", "157 137 " + (row[1] + 14) + " 137");
            }
        }
        // w if it is not awaited, else x, else plainly; a register that is not awaited any more is taken again.
        String k = "\\kern";
        code(head + "\\kern1sp" + rule + "\\kern2sp" + rule + "\\kern3sp" + rule + "\\kern1sp" + rule + "\\kern2sp" + rule + "\\kern3sp"
            + rule + "}", "157 148 137 153 137 143 137 147 137 152 137 143 137");
        code(head + "\\kern1sp" + rule + "\\kern2sp" + rule + "\\kern1sp" + rule + "\\kern3sp" + rule + "\\kern2sp" + rule + "\\kern3sp"
            + rule + "}", "157 148 137 153 137 147 137 148 137 152 137 147 137");
        code(head + "\\kern1sp" + rule + "\\kern1sp" + rule + "\\kern2sp" + rule + "\\kern1sp" + rule + "}",
            "157 148 137 147 137 143 137 147 137");
        code(head + "\\kern1sp" + rule + "\\kern1sp" + rule + "\\kern2sp" + rule + "\\kern2sp" + rule + "}",
            "157 148 137 147 137 148 137 147 137");
        code(head + "\\kern1sp" + rule + "\\kern2sp" + rule + "\\kern2sp" + rule + "\\kern1sp" + rule + "}",
            "157 148 137 153 137 152 137 147 137");
        // Down with y and z.
        String d = "\\topskip0pt\\vbox{\\hrule height0sp depth1sp width1sp\\kern-1sp";
        code(d + "\\kern2sp" + lying + "\\kern3sp" + lying + "\\kern2sp" + lying + "\\kern3sp" + lying + "\\kern4sp" + lying + "}",
            "157 137 162 137 167 137 161 137 166 137 157 137");
        // Moves right and down at once, and moves that are much alike.
        String line = "\\hbox{\\kern1sp" + rule + "\\kern2sp" + rule + "\\kern1sp" + rule + "\\kern2sp" + rule + "}";
        code("\\topskip0pt\\baselineskip0pt\\lineskip0pt\\lineskiplimit-9pt" + line + "\\penalty10000 \\kern2sp" + line
            + "\\penalty10000 \\kern3sp" + line + "\\penalty10000 \\kern2sp" + line + "\\penalty10000 \\kern3sp" + line,
            "157 148 137 153 137 147 137 152 137 162 143 137 152 137 147 137 152 137 167 143 137 152 137 147 137 152 137 "
                + "161 143 137 152 137 147 137 152 137 166 143 137 152 137 147 137 152 137");
        code(head + "\\kern1sp" + rule + "\\kern1024sp" + rule + "}", "157 143 137 144 137");
        code(head + "\\kern1sp" + rule + "\\kern1024sp" + rule + "\\kern1sp" + rule + "\\kern1024sp" + rule + "}",
            "157 148 137 154 137 147 137 152 137");
        code(head + "\\kern1sp" + rule + "\\kern1024sp" + rule + "\\kern2sp" + rule + "\\kern2sp" + rule + "}",
            "157 143 137 144 137 148 137 147 137");
        // Each page begins anew.
        code(head + k + "5sp" + rule + k + "5sp" + rule + "}\\penalty-10000 " + "\\hbox{" + k + "5sp" + rule + "}",
            "157 148 137 147 137 157 143 137");
        // No move by 0; a rule adds nothing to h, a character its width.
        code("\\topskip5pt\\hbox{ab\\kern0pt c}", "159 243 171 97 98 99");
        code(head + "\\vrule height0sp depth1sp width1sp\\vrule height0sp depth1sp width1sp}", "157 137 143 137");
    }

    private static void fontsOfFiles() {
        House h = House.withFont();
        h.give(9, new Metrics().plain().bytes());
        h.give(10, new Metrics().plain().bytes());
        StringBuilder many = new StringBuilder();
        for (int i = 0; i < 66; i++) {
            many.append("\\font\\x=0 at ").append(i + 1).append("sp ");
            if (i >= 62) {
                many.append("\\hbox{\\x a}");
            }
        }
        House.due("66 fonts", h.run(many.toString()), 0);
        byte[] b = h.file();
        StringBuilder codes = new StringBuilder();
        for (int i = 0; i + 1 < b.length; i++) {
            int op = b[i] & 255;
            if (op >= 171 && op <= 234 && b[i + 1] == 'a') {
                codes.append(op).append(' ');
            } else if (op == 235 && b[i + 2] == 'a') {
                codes.append(op).append('-').append(b[i + 1] & 255).append(' ');
            }
        }
        House.due("63 is the last one with a code of its own", codes.toString(), "233 234 235-64 235-65 ");
        House.due("names", h.run("\\font\\x=9 \\font\\y=10 \\hbox{\\x a\\y b}"), 0);
        String file = new String(h.file(), java.nio.charset.StandardCharsets.ISO_8859_1);
        House.due("one digit", file.contains("\5font9") ? 1 : 0, 1);
        House.due("two digits", file.contains("\6font10") ? 1 : 0, 1);
        Metrics all = new Metrics();
        all.first = 0;
        all.last = 255;
        House.due("a font of all characters", h.give(0, all.plain().bytes()), 0);
        for (int c : new int[] {0, 127, 128, 255}) {
            House.due("character " + c, h.run("\\font\\f=0 \\f\\hbox{\\char" + c + " }"), 0);
            byte[] one = h.file();
            int at = 15 + 46 + 4 + 21 + 1;
            House.due("its byte", one[at] & 255, c < 128 ? c : 128);
            House.due("and the next one", one[at + 1] & 255, c < 128 ? 142 : c);
        }
        House.due("characters above 127 in one font", h.run("\\font\\f=0 \\f\\hbox{\\char200 \\char10 \\char201 \\char0 \\char0 \\kern1sp"
            + "\\char0 }"), 0);
        byte[] row = h.file();
        int[] due = {171, 128, 200, 10, 128, 201, 0, 0, 143, 1, 0, 142};
        for (int i = 0; i < due.length; i++) {
            House.due("byte " + i + " of them", row[15 + 46 + 4 + 21 + i] & 255, due[i]);
        }
        House.due("the width of character 0", h.run("\\font\\f=0 \\f\\hbox{\\kern999672320sp\\char0 }"), 0);
        House.due("the width of character 0", h.run("\\font\\f=0 \\f\\hbox{\\kern999672321sp\\char0 }"), 1600001);
        // A font that is not printed is not told.
        House.due("none told", House.ran("\\hbox{}", 0).house.size(), 56 + 48);
    }
}
