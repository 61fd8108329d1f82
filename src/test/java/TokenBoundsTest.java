/** The boundaries of reading: lines, categories, names, macros, expansion and conditions. */
public final class TokenBoundsTest {
    public static void main(String[] args) {
        lines();
        firstCategories();
        categories();
        names();
        mostNames();
        primitives();
        pending();
        nesting();
        ticks();
        delimiters();
        arguments();
        argumentTokens();
        definitions();
        storedTokens();
        marks();
        csname();
        strings();
        romans();
        the();
        tests();
        dividers();
        dropping();
        mostConditions();
        House.close();
    }

    private static void run(String source, int answer) {
        House.dueRun(source, answer);
    }

    private static void count(String source, int value) {
        House.dueCount(source, value);
    }

    /** A source whose tokens make counter 1 the given number: all that is read comes behind \count1=0. */
    private static void digits(String source, int value) {
        count("\\count1=0" + source + "\\relax", value);
    }

    private static void lines() {
        run("", 0);
        run("\n", 0);
        run("\\u", 1100001);
        run("\n\\u", 1100002);
        run("{", 900001);
        run("{\n", 900001);
        run("{\n\n", 900002);
        run("{\n ", 900002);
        run("{\n\n\n\n", 900004);
        House none = new House();
        House.due("a source without lines", none.give(18, ""), 0);
        // Spaces at the end of a line are left out whatever they are; other characters are not.
        count("\\catcode32=12\\def\\a#1\n{\\count1=0#1\\relax}%\n\\a7   \n\\end", 7);
        count("\\catcode9=12\\def\\a#1\t{\\count1=0#1\\relax}\\a7\t  \n\\end", 7);
        // They are left out when the line is begun.
        count("\\catcode32=12\\count1=4\n\\advance\\count1by3     \n\\relax", 7);
        // 13 comes behind a line, with its category then.
        count("\\catcode13=12\\relax\\count1=`\n\\end", 13);
        count("\\catcode13=13\\relax\\def\n{\\advance\\count1by1\\relax}%\n\n\\relax\n\\relax\\end", 2);
        run("\\catcode13=15\\relax\n", 100001);
        run("\\catcode13=14\\relax\n\\u", 1100002);
        run("\\catcode13=9\\count1=1\n2\\count2=\\count1\\ifnum\\count1=12\\u\\fi", 1100002);
        // A number may go on in the next line if nothing comes between.
        count("\\count1=1%\n2", 12);
        count("\\count1=1\n2", 1);
    }

    private static void firstCategories() {
        for (int c = 0; c < 256; c++) {
            boolean letter = c >= 'a' && c <= 'z' || c >= 'A' && c <= 'Z';
            int due = letter ? 11 : 12;
            int special = "\\{}$&\r#^_\0".indexOf(c);
            due = special >= 0 ? special : c == ' ' || c == 9 ? 10 : c == '~' ? 13 : c == '%' ? 14 : c == 127 ? 15 : due;
            count("\\count1=\\catcode" + c + " ", due);
        }
        run("\\catcode0=0 \\catcode255=15 ", 0);
        run("\\catcode256=0 ", 700001);
        run("\\catcode-1=0 ", 700001);
        run("\\catcode0=16 ", 700001);
        run("\\catcode0=-1 ", 700001);
        run("\\catcode256=16 ", 700001);
        count("{\\catcode`!=11 }\\count1=\\catcode`!", 12);
        count("{\\global\\catcode`!=11 }\\count1=\\catcode`!", 11);
    }

    private static void categories() {
        // 5: the rest of the line is dropped; NEW: par, MIDDLE: a space, SKIPPING: nothing.
        count("\\catcode`!=5 \\def\\par{\\advance\\count1 by 1 }!\\u\n !\\u\n!", 2);
        count("\\catcode`!=5 \\def\\a#1;{\\count1=0#1}\\a1!\\u\n2;\\relax", 1);
        count("\\catcode`!=5 \\def\\a#1;{\\count1=0#1}\\a\\relax!\\u\n;\\advance\\count1 by 2 ", 2);
        count("\\catcode`!=5 \\count1=1 !\\u\n\\advance\\count1 by 2 ", 3);
        // 9: nothing. The state stays.
        count("\\catcode`!=9 \\count1=1!2!!3 ", 123);
        count("\\catcode`!=9 \\def\\par{\\count1=5 }%\n!\n\\end", 5);
        // 10: in MIDDLE a space, otherwise nothing; it is character 32 then.
        count("\\catcode`!=10 \\def\\a#1;{\\count1=`#1}\\a{!};%\n", 32);
        digits("1!!!2".replace("!", "\0"), 12);
        count("\\catcode`!=10 \\count1=1!!!2", 1);
        count("\\catcode`!=10 \\def\\a#1!{\\count1=0#1}\\a!12!", 12);
        count("\\catcode`!=10 \\def\\a x x{\\count1=3 }\\a x!!!x", 3);
        // 14: the rest of the line is dropped, and nothing comes of it.
        count("\\count1=1%\u007f\n2", 12);
        // 15.
        run("\u007f", 100001);
        run("a\n\u007f", 100002);
        run("%\u007f", 0);
        run("\\catcode`!=15 \n!", 100002);
        run("\\iffalse\u007f\\fi", 100001);
        run("\\def\\a{\u007f}", 100001);
        run("\\def\\\u007f{\\u}\\\u007f", 1100001);
        // 13.
        count("\\catcode`!=13 \\def!{\\count1=4 }!", 4);
        count("\\catcode`!=13 \\def!{7}\\count1=1! !", 17);
        count("\\catcode0=13 \\def\0{\\count1=5 }\0", 5);
        run("\\catcode0=13 \\csname\0\\endcsname", 600001);
        count("\\catcode255=13 \\def\u00ff{\\count1=5 }\u00ff", 5);
        run("~", 1100001);
        // The category is that when the character is read, and stays with the token.
        count("\\def\\a{\\catcode`!=14 \\count1=1!2}\\catcode`!=12 \\def\\b#1{\\catcode`#1=14 \\count1=1}\\b!2", 12);
    }

    private static void names() {
        String most = "n".repeat(40);
        count("\\def\\" + most + "{\\count1=1 }\\" + most + " ", 1);
        run("\\def\\" + most + "n{}", 200001);
        run("\\iffalse\\" + most + "n\\fi", 200001);
        run("%\\" + most + "n", 0);
        run("\\let\\a\\" + "n".repeat(3000), 200001);
        run("\n\\" + "n".repeat(41), 200002);
        run("\\csname " + most + "\\endcsname", 0);
        run("\\csname " + most + "n\\endcsname", 200001);
        // A row of letters, or one other character, or none at the end of a line that has no 13.
        count("\\def\\ab{\\count1=1 }\\ab1", 1);
        count("\\def\\1{\\count1=3}\\12 ", 32);
        count("\\def\\1#1{\\count1=`#1}\\1 x", 'x');
        count("\\def\\a#1;{\\count1=0#1}\\a 5;", 5);
        count("\\def\\1#1;{\\count1=1#1}\\1 5;", 1);
        count("\\def\\ #1;{\\count1=1#1}\\  5;", 15);
        count("\\catcode13=0 \\expandafter\\def\\csname\\endcsname{\\count1=2 }%\n\n\\end", 2);
        count("\\count1=`\\\n\\relax", 13);
        // Letters are what has category 11 then.
        count("\\catcode`!=11 \\def\\a!{\\count1=7 }\\a!", 7);
        count("\\catcode13=11 \\def\\a\n{\\count1=8 }%\n\\a\n\\end%", 8);
        count("\\catcode`a=12 \\def\\a#1{\\count1=`#1}\\ab", 'b');
    }

    private static String loop(int n, String body) {
        return "\\def\\l{\\ifnum\\count200<" + n + " \\advance\\count200 by 1 " + body + "\\expandafter\\l\\fi}\\l ";
    }

    private static void mostNames() {
        // The names f and l are two of them.
        String made = "\\expandafter\\let\\csname n\\number\\count200\\endcsname=\\par";
        run(loop(998, made), 0);
        run(loop(999, made), 200001);
        run(loop(997, made) + "\\let\\u=\\par\\let\\u=\\par\\let\\f=\\par", 0);
        run(loop(997, made) + "\\let\\u=\\par\n\\let\\v=\\par", 200002);
        run(loop(997, made) + "\\csname u\\endcsname\\csname u\\endcsname", 0);
        run(loop(997, made) + "\\csname u\\endcsname\\csname v\\endcsname", 200001);
        run(loop(998, made) + "\\iffalse\\v\\fi", 200001);
        run(loop(998, made) + "\\string\\v", 200001);
        run(loop(998, made) + "\\def\\f#1{}\\f{\\v}", 200001);
        run(loop(998, made) + "\\def\\f{\\v}", 200001);
        run(loop(998, made) + "%\\v", 0);
        run(loop(998, made) + "\\csname relax\\endcsname\\hfilneg", 200001);
        run(loop(998, made) + "\\relax\\hbox{}\\-\\ \\parfillskip=0pt\\ifdim0pt=0pt\\fi", 0);
        run(loop(998, made) + "\\catcode`!=13 \\def!{}!~", 1100001);
        // Each run begins anew.
        House h = House.withFont();
        String source = "\\font\\f=0 \\f " + loop(998, made);
        House.due("998 names and two", h.run(source), 0);
        House.due("998 other ones", h.run(source.replace("csname n", "csname m")), 0);
    }

    /** At first the primitives' names mean these, and no others mean anything. */
    private static void primitives() {
        String names = "expandafter noexpand csname string number romannumeral the if ifcat ifx ifnum ifdim ifodd ifvmode ifhmode ifvoid "
            + "iftrue iffalse ifcase else or fi relax endcsname begingroup endgroup end par char hskip hfil hfill vrule indent noindent - "
            + "vskip vfil vfill hrule kern penalty raise lower moveleft moveright hbox vbox box copy setbox def edef gdef xdef let chardef "
            + "font catcode advance multiply divide count dimen skip pretolerance tolerance linepenalty hyphenpenalty exhyphenpenalty "
            + "clubpenalty widowpenalty brokenpenalty interlinepenalty adjdemerits doublehyphendemerits finalhyphendemerits looseness "
            + "hsize vsize parindent lineskiplimit maxdepth emergencystretch parskip baselineskip lineskip topskip leftskip rightskip "
            + "parfillskip wd ht dp global";
        String[] all = names.split(" ");
        for (int i = 0; i < all.length; i++) {
            count("\\count1=0\\ifx\\" + all[i] + "\\undefined1\\else2\\fi\\relax", 2);
            String other = all[(i + 1) % all.length];
            count("\\count1=0\\ifx\\" + all[i] + (all[i].equals("-") ? "" : " ") + "\\" + other + (other.equals("-") ? "" : " ")
                + "1\\else2\\fi\\relax", 2);
        }
        count("\\count1=0\\ifx\\ \\undefined1\\else2\\fi\\relax", 2);
        for (String none : new String[] {"hss", "unskip", "bye", "break", "hyphenation", "ifmmode", "toks", "a", "Relax", "parr", "pa",
            "vsplit", "message", "/", "0", "_"}) {
            run("\\" + none, 1100001);
        }
        run("~", 1100001);
        run("\\catcode`!=13 !", 1100001);
        run("\\catcode13=0 \\relax\n", 1100001);
    }

    private static void pending() {
        String ten = "\\def\\a#1{#1#1#1#1#1#1#1#1#1#1}";
        String thousand = "\\relax".repeat(1000);
        run(ten + "\\a{" + thousand + "}", 0);
        run(ten + "\\a{" + thousand + "\\relax}", 200001);
        run(ten + "\\def\\b#1{\\a{#1}\\relax}\\b{" + thousand + "}", 200001);
        run(ten + "\\def\\b#1{\\a{#1}}\\b{" + thousand + "}", 0);
        run(ten + "\\def\\b#1{\\a{#1}" + "\\relax".repeat(200) + "}\\b{" + thousand + "}", 200001);
        run("\\def\\a#1{" + "#1".repeat(9) + "\\relax".repeat(1000) + "}\\a{" + thousand + "}", 0);
        run("\\def\\a#1{" + "#1".repeat(9) + "\\relax".repeat(1500) + "}\\a{" + thousand + "}", 200001);
        run(ten + "\\expandafter\\relax\\a{" + "\\relax".repeat(999) + "}", 0);
        run(ten + "\\expandafter\\relax\\a{" + thousand + "}", 200001);
        // 9997 tokens behind a number of three digits are 10000, of four digits one more.
        String head = "\\def\\c#1{\\number\\count5#1}\\count5=";
        String arg = "{" + "\\relax".repeat(9997) + "}";
        run(head + "123 \\c" + arg, 0);
        run(head + "1234 \\c" + arg, 200001);
        // A macro of 9 arguments that are put often.
        String all = "\\def\\a#1#2#3#4#5#6#7#8#9{#1#2#3#4#5#6#7#8#9#1}";
        run(all + "\\a{" + thousand + "}" + ("{" + thousand + "}").repeat(8), 0);
        run(all + "\\a{" + thousand + "}" + ("{" + thousand + "}").repeat(7) + "{\\relax" + thousand + "}", 200001);
    }

    private static void nesting() {
        String after = "\\expandafter\\relax";
        run("\\def\\m{}" + after.repeat(39) + "\\m", 0);
        run("\\def\\m{}" + after.repeat(40) + "\\m", 300001);
        run(after.repeat(40) + "\\relax", 0);
        run(after.repeat(41) + "\\relax", 300001);
        run(after.repeat(38) + "\\number1 ", 0);
        run(after.repeat(39) + "\\number1 ", 300001);
        run("\\count1=" + "\\count".repeat(39) + "1 ", 0);
        run("\\count1=" + "\\count".repeat(40) + "1 ", 300001);
        run("\\dimen1=" + "\\dimen\\count".repeat(1) + "\\count".repeat(38) + "1 ", 0);
        run("\\dimen1=" + "\\dimen\\count".repeat(1) + "\\count".repeat(39) + "1 ", 300001);
        run("\\dimen1=.5" + "\\dimen" + "\\count".repeat(39) + "1 ", 0);
        run("\\dimen1=.5" + "\\dimen" + "\\count".repeat(40) + "1 ", 300001);
        run("\\skip1=" + "\\skip" + "\\count".repeat(39) + "1 ", 0);
        run("\\skip1=" + "\\skip" + "\\count".repeat(40) + "1 ", 300001);
        run("\\csname".repeat(40) + "\\endcsname".repeat(40), 600001);
        run("\\csname".repeat(41), 300001);
        // Forty names within one another, each of forty characters.
        String most = "\\csname " + "a".repeat(39);
        count("\\expandafter\\def\\csname " + "a".repeat(39) + "y\\endcsname{y}\\let\\y=y\\edef\\b{" + most.repeat(40) + "y"
            + "\\endcsname".repeat(40) + "}\\def\\c{y}\\ifx\\b\\c\\count1=1 \\fi", 1);
        run("\\ifnum".repeat(20) + "1=1 ", 900001);
        run("\\ifnum".repeat(21), 300001);
        // Expansions that are over do not count, nor do macros that put macros.
        run("\\def\\l{\\ifnum\\count3<200 \\advance\\count3 by 1 \\l\\fi}\\l", 200001);
        run("\\def\\l{\\ifnum\\count3<99 \\advance\\count3 by 1 \\l\\fi}\\l", 0);
        run("\\def\\l{\\ifnum\\count3<500 \\advance\\count3 by 1 \\expandafter\\l\\fi}\\l", 0);
        // A mixture: 20 conditions with a number each are 40.
        run("\\def\\m{1}" + "\\ifnum".repeat(19) + "\\expandafter\\m\\m", 900001);
        run("\\def\\m{1}" + "\\ifnum".repeat(20) + "\\m", 300001);
    }

    private static void ticks() {
        String after = "\\expandafter\\relax";
        House h = new House();
        h.house.fuel(41);
        House.due("the 41st tick is there, but within 40 others", h.run(after.repeat(41)), 300001);
        House.due("ticks", h.house.about(0), 41);
        h.house.fuel(40);
        House.due("10 comes before 3", h.run(after.repeat(41)), 1000001);
        House.due("ticks with the one that was too many", h.house.about(0), 41);
        h.house.fuel(0);
        House.due("none is needed for nothing", h.run("%\n"), 0);
        House.due("ticks", h.house.about(0), 0);
        House.due("end is done, too", h.run("\\end"), 1000001);
        House.due("and par", h.run("\n"), 1000001);
        House.due("and what means nothing", h.run("\\u"), 1000001);
        h.house.fuel(1);
        House.due("end", h.run("\\end"), 0);
        House.due("par", h.run("\n"), 0);
        House.due("nothing", h.run("\\u"), 1100001);
        House.due("one condition", h.run("\\iffalse\\u\\u\\u\\fi%"), 0);
        House.due("ticks", h.house.about(0), 1);
        House.due("two", h.run("\\iftrue\\fi%"), 1000001);
        h.house.fuel(2);
        House.due("two", h.run("\\iftrue\\fi%"), 0);
        House.due("global is one with what follows", h.run("\\global\\global\\count1=5 \\relax"), 0);
        House.due("that is done", h.house.about(0), 2);
        House.due("what comes behind end is not read", h.run("\\end\\u\u007f"), 0);
        House.due("end", h.house.about(0), 1);
    }

    private static void delimiters() {
        String a = "\\def\\a x\\y~#1{}";
        run(a + "\\a x\\y~z", 0);
        run(a + "\\a y", 400001);
        run(a + "\\a x\\z", 400001);
        run(a + "\\a x\\y\\y", 400001);
        run(a + "\\a}", 400001);
        run(a + "\\a{", 400001);
        run(a + "\\a x", 400001);
        run(a + "\\a x%", 900001);
        run(a + "\\catcode`x=12 \\a x\\y~z", 400001);
        run(a + "\\catcode`~=12 \\a x\\y~z", 400001);
        run(a + "\\a  x\\y~z", 0);
        run("\\def\\a1 2{}\\a1  2", 0);
        run("\\def\\a1 2{}\\a12", 400001);
        // Marks aside.
        run("\\def\\y{}\\def\\a x\\y{}\\expandafter\\a\\expandafter x\\noexpand\\y", 0);
        run("\\def\\y{}\\def\\a#1\\y{}\\expandafter\\a\\expandafter x\\noexpand\\y", 0);
        run("\\def\\a x{}\n\n\\a\n\ny", 400004);
        run("\\def\\a x{}\\let\\z=x\\a\\z", 400001);
    }

    private static void arguments() {
        run("\\def\\a#1{}\\a}", 500001);
        run("\\def\\a#1{}\\a   }", 500001);
        run("\\def\\a#1#2{}\\a x}", 500001);
        run("\\def\\a#1{}\\a{x", 900001);
        run("\\def\\a#1{}\\a{{x}%", 900001);
        run("\\def\\a#1;{}\\a }", 500001);
        run("\\def\\a#1;{}\\a x{y}z};", 500001);
        run("\\def\\a#1;{}\\a x{y;}%", 900001);
        run("\\let\\x=}\\def\\a#1{}\\a\\x", 0);
        run("\\let\\x={\\def\\a#1{}\\a\\x", 0);
        count("\\def\\a#1{\\count1=1#1 }\\a{}", 1);
        count("\\def\\a#1{\\count1=1#1 }\\a   {23}", 123);
        count("\\def\\a#1#2{\\count1=#2#1 }\\a 1  2", 21);
        count("\\def\\a#1;{\\count1=1#1 }\\a;", 1);
        count("\\def\\a#1;{\\count1=1#1 }\\a{};", 1);
        count("\\def\\a#1;{\\count1=1#1 }\\a{2};", 12);
        count("\\def\\a#1;{\\b#1.}\\def\\b#1#2.{\\count1=#1 }\\a{12}{3};", 12);
        count("\\def\\a#1;{\\b#1.}\\def\\b#1#2.{\\count1=#1 }\\a 1{2};", 1);
        count("\\def\\a#1;{\\b#1.}\\def\\b#1#2.{\\count1=#1 }\\a{{12}3};", 12);
        count("\\def\\a#1;;{\\count1=1#1 }\\a2{;;}\\relax;;", 12);
        count("\\def\\a#1;:{\\b#1.}\\def\\b#1;#2.{\\count1=#2 }\\a;5;:", 5);
        count("\\def\\a#1 {\\count1=1#1}\\a23 4", 1234);
        count("\\def\\a#1#2;{\\count1=1#1\\count2=2#2}\\a  3 4;", 13);
        // Nine parameters.
        count("\\def\\a#1#2#3#4#5#6#7#8#9{\\count1=#9#8#7#6#5#4#3#2#1 }\\a123456789", 987654321);
        run("\\def\\a#1#2#3#4#5#6#7#8#9#1{}", 1200001);
        run("\\def\\a#1#2#3#4#5#6#7#8#9#:{}", 1200001);
    }

    private static void argumentTokens() {
        run("\\def\\a#1{}\\a{" + "x".repeat(9998) + "}", 0);
        run("\\def\\a#1{}\\a{" + "x".repeat(9999) + "}", 200001);
        run("\\def\\a#1{}\\a   {" + "x".repeat(9998) + "}", 0);
        run("\\def\\a#1;;{}\\a " + "x".repeat(9998) + ";;", 0);
        run("\\def\\a#1;;{}\\a " + "x".repeat(9999) + ";;", 200001);
        run("\\def\\a#1;;{}\\a{" + "x".repeat(9996) + "};;", 0);
        run("\\def\\a#1;;{}\\a{" + "x".repeat(9997) + "};;", 200001);
        run("\\def\\a#1#2{}\\a{" + "x".repeat(9998) + "}{" + "x".repeat(9998) + "}", 0);
        run("\\def\\a#1#2{}\\a{" + "x".repeat(9998) + "}{" + "x".repeat(9999) + "}", 200001);
        // 2 comes with the token that is too many, 9 when there is none.
        run("\\def\\a#1;{}\\a" + " x".repeat(5000) + ";", 0);
        run("\\def\\a#1;{}\\a" + " x".repeat(5000) + "y%", 900001);
        run("\\def\\a#1;{}\\a" + " x".repeat(5000) + "yy%", 200001);
    }

    private static void definitions() {
        run("\\def\\a#1{#1}", 0);
        run("\\def\\a#0{}", 1200001);
        run("\\def\\a#2{}", 1200001);
        run("\\def\\a#1#3{}", 1200001);
        run("\\def\\a#x{}", 1200001);
        run("\\def\\a#{}", 1200001);
        run("\\def\\a##{}", 1200001);
        run("\\def\\a#1{#0}", 1200001);
        run("\\def\\a#1{#2}", 1200001);
        run("\\def\\a{#1}", 1200001);
        run("\\def\\a#1{#}", 1200001);
        run("\\def\\a#1{#{}}", 1200001);
        run("\\def\\a}{}", 500001);
        run("\\def\\a#1}{}", 500001);
        run("\\def{}", 600001);
        run("\\def}", 600001);
        run("\\def  x", 600001);
        run("\\catcode`1=11 \\def\\a#1{}", 1200001);
        run("\\catcode`!=6 \\def\\a!1{!1}", 0);
        run("\\catcode`!=6 \\def\\a!1#2{#1!2}", 0);
        run("\\def\\a{\\b#}", 1200001);
        run("\\edef\\a#1{\\string#1}", 0);
        run("\\def\\b{##}\\edef\\a#1{\\b1}\\def\\c#1{#1}\\ifx\\a\\c\\else\\u\\fi", 0);
        run("\\def\\b{2}\\edef\\a#1#2{#\\b}\\def\\c#1#2{#2}\\ifx\\a\\c\\else\\u\\fi", 0);
        run("\\def\\b{##}\\edef\\a{\\b}", 1200001);
        run("\\def\\b{##}\\edef\\a{#\\b}\\ifx\\a\\b\\else\\u\\fi", 0);
        run("\\edef\\a{\\u}", 0);
        run("\\edef\\a{\\fi}", 800001);
        run("\\edef\\a{\\iftrue x\\else y\\fi}\\def\\b{x}\\ifx\\a\\b\\else\\u\\fi", 0);
        // Spaces before the name are dropped; a name that is marked is a name.
        run("\\def\\s{ }\\expandafter\\def\\s\\a{\\u}\\a", 1100001);
        run("\\def\\s{ }\\expandafter\\let\\s\\a=\\u\\a", 1100001);
        run("\\def\\s{ }\\expandafter\\let\\expandafter\\a\\s\\s\\ifx\\a\\s\\else\\u\\fi", 0);
        run("\\catcode`!=10 \\catcode`;=12 \\def!\\a{\\u}\\a", 1100001);
        run("\\def\\a{}\\expandafter\\def\\noexpand\\a{\\u}\\a", 1100001);
        // Delimiters may have spaces, braces end them.
        run("\\def\\a #1 {#1}\\a{\\u} ", 1100001);
    }

    private static void storedTokens() {
        run("\\def\\a{" + "x".repeat(9999) + "}", 0);
        run("\\def\\a{" + "x".repeat(10000) + "}", 200001);
        run("\\def\\a{" + "x".repeat(9998) + "}\\def\\b{}", 0);
        run("\\def\\a{" + "x".repeat(9999) + "}\n\\def\n\\b", 200003);
        run("\\def\\a{" + "x".repeat(9998) + "}\\def\\a{x", 200001);
        run("\\def\\a#1#2{" + "x".repeat(9995) + "#1#2}", 0);
        run("\\def\\a#1#2{" + "x".repeat(9996) + "#1#2}", 200001);
        run("\\def\\a " + "x".repeat(9999) + "{}", 0);
        run("\\def\\a " + "x".repeat(10000) + "{}", 200001);
        run("\\def\\a{" + "##".repeat(9999) + "}", 0);
        run("\\def\\a{" + "##".repeat(10000) + "}", 200001);
        run("\\def\\a{" + "{}".repeat(4999) + "x}", 0);
        run("\\def\\a{" + "{}".repeat(5000) + "}", 200001);
        // What is expanded away is none of them.
        run("\\edef\\a{" + "\\iffalse x\\fi ".repeat(3000) + "x".repeat(9999) + "}", 0);
        // Groups and other definitions of a name bring nothing back.
        run(loop(1000, "{\\def\\x{1234567}}"), 0);
        run(loop(1300, "{\\def\\x{1234567}}"), 200001);
        run("\\let\\b=x".repeat(1000), 0);
        // 12 comes when the token is got, before it would be one too many.
        run("\\def\\a{" + "x".repeat(9999) + "#1}", 1200001);
        run("\\def\\a#1{" + "x".repeat(9998) + "#1}", 200001);
    }

    private static void marks() {
        run("\\def\\a{\\u}\\noexpand\\a", 0);
        run("\\noexpand\\u", 1100001);
        run("\\noexpand\\undefined", 1100001);
        count("\\def\\a{}\\count1=1\\expandafter\\ifx\\noexpand\\a\\relax1\\fi\\relax", 11);
        count("\\def\\a{}\\count1=1\\if\\noexpand\\a\\relax1\\fi\\relax", 11);
        count("\\def\\a{}\\count1=1\\ifcat\\noexpand\\a\\relax1\\fi\\relax", 11);
        count("\\def\\a{}\\expandafter\\let\\expandafter\\b\\expandafter=\\noexpand\\a"
            + "\\count1=1\\ifx\\b\\relax1\\fi\\relax", 11);
        // An argument's tokens lose no marks, those of a body do.
        run("\\def\\b#1{#1}\\def\\a{\\u}\\expandafter\\b\\noexpand\\a", 0);
        run("\\def\\a{\\u}\\expandafter\\def\\expandafter\\b\\expandafter{\\noexpand\\a}\\b", 1100001);
        run("\\def\\a{\\u}\\edef\\b{\\noexpand\\a}\\b", 1100001);
        // What is not expandable is not marked.
        count("\\count1=1\\noexpand2 ", 12);
        run("\\noexpand\\font\\a=0 ", 0);
    }

    private static void csname() {
        run("\\csname\\endcsname", 0);
        run("\\csname\\relax\\endcsname", 600001);
        run("\\csname~\\endcsname", 600001);
        run("\\let\\x=a\\csname\\x\\endcsname", 600001);
        run("\\def\\a{}\\csname\\noexpand\\a\\endcsname", 600001);
        run("\\csname{}$&#^_ 1\\endcsname", 0);
        run("\\let\\x=\\endcsname\\csname a\\x", 0);
        run("\\csname " + "a".repeat(40) + "\\relax\\endcsname", 600001);
        run("\\csname " + "a".repeat(41) + "\\relax\\endcsname", 200001);
        run("\\csname " + "a".repeat(39) + " \\endcsname", 0);
        run("\\csname " + "a".repeat(40) + " \\endcsname", 200001);
        run("\\csname a%", 900001);
        count("\\def\\b{x}\\def\\axc{\\count1=6 }\\csname a\\csname b\\endcsname c\\endcsname", 6);
        run("\\def\\b{x}\\csname " + "a".repeat(38) + "\\csname b\\endcsname c\\endcsname", 0);
        run("\\def\\b{x}\\csname " + "a".repeat(38) + "\\csname b\\endcsname cc\\endcsname", 200001);
        run("\\expandafter\\def\\csname " + "b".repeat(40) + "\\endcsname{x}\\csname " + "a".repeat(38) + "\\csname "
            + "b".repeat(40) + "\\endcsname c\\endcsname", 0);
        count("\\count1=1{\\csname q\\endcsname\\ifx\\q\\relax\\global\\advance\\count1 by 1 \\fi}\\ifx\\q\\undefined"
            + "\\advance\\count1 by 10 \\fi", 12);
        count("\\count1=5 {\\csname count\\endcsname1=6 }", 5);
        count("\\def\\q{\\count1=7 }\\csname q\\endcsname", 7);
    }

    private static void strings() {
        String is = "\\def\\is#1#2{\\ifcat#1#2\\count1=`#1\\else\\count1=1\\fi\\relax}";
        count(is + "\\expandafter\\is\\string a?", 'a');
        count(is + "\\expandafter\\is\\string\\par?", '\\');
        count(is + "\\expandafter\\is\\string{?", '{');
        count(is + "\\expandafter\\is\\string~?", '~');
        count(is + "\\expandafter\\is\\string#?", '#');
        count("\\catcode13=0 \\def\\a#1.{\\count1=`#1}\\expandafter\\a\\string%\n\n.\\end", '\\');
        // A space has category 10.
        count("\\def\\a#1#2;{\\count1=`#2}\\expandafter\\a\\string\\ ;", 32);
        count("\\count1=1\\expandafter\\ifcat\\string\\ 1\\fi\\relax", 1);
        count("\\catcode`!=13 \\def\\s{\\string}\\count1=1\\ifcat\\s!?2\\fi\\relax", 12);
        count("\\catcode32=13\\count1=1\\expandafter\\ifcat\\expandafter?\\string 2\\fi\\relax", 1);
    }

    private static void romans() {
        String[] small = {"", "i", "ii", "iii", "iv", "v", "vi", "vii", "viii", "ix", "x"};
        for (int i = 0; i < small.length; i++) {
            roman(i, small[i]);
        }
        roman(-1, "");
        roman(-2147483647, "");
        roman(14, "xiv");
        roman(40, "xl");
        roman(49, "xlix");
        roman(90, "xc");
        roman(99, "xcix");
        roman(400, "cd");
        roman(444, "cdxliv");
        roman(500, "d");
        roman(900, "cm");
        roman(1000, "m");
        roman(3888, "mmmdccclxxxviii");
        roman(4000, "mmmm");
        roman(9999, "mmmmmmmmmcmxcix");
        run("\\romannumeral10000 ", 700001);
        run("\\romannumeral2147483647 ", 700001);
        count("\\count1=1\\def\\a#1{\\ifcat#1?2\\fi}\\expandafter\\a\\romannumeral1 \\relax", 1);
    }

    private static void roman(int n, String due) {
        StringBuilder letters = new StringBuilder();
        for (char c : due.toCharArray()) {
            letters.append("\\string ").append(c);
        }
        count("\\edef\\a{\\romannumeral" + n + " }\\edef\\b{" + letters + "}\\ifx\\a\\b\\count1=1 \\fi", 1);
    }

    private static void the() {
        for (String none : new String[] {" a", "1", "\\relax", "\\f", "\\u", "\\font", "{", "\\par", "\\setbox", "\\hbox",
            "`a", "-1"}) {
            run("\\the" + none, 600001);
        }
        run("\\the\\count256 ", 700001);
        run("\\the\\count-1 ", 700001);
        run("\\the\\dimen256 ", 700001);
        run("\\the\\skip256 ", 700001);
        run("\\the\\catcode256 ", 700001);
        run("\\the\\wd256 ", 700001);
        run("\\the\\ht-1 ", 700001);
        run("\\the\\dp256 ", 700001);
        count("\\count2=-2147483647 \\count1=\\the\\count2 ", -2147483647);
        count("\\count255=2147483647 \\count1=\\the\\count255 ", 2147483647);
        count("\\count1=\\the\\catcode`a ", 11);
        count("\\chardef\\x=255 \\count1=\\the\\x ", 255);
        count("\\dimen255=-1073741823sp\\dimen1=\\the\\dimen255 \\count1=\\dimen1 ", -1073741823);
        count("\\skip1=-3sp plus 5fil\\dimen1=\\the\\skip1 \\count1=\\dimen1 ", -3);
        count("\\dimen1=\\the\\wd255 \\count1=7\\count1=\\dimen1 ", 0);
        count("\\count1=\\the\\looseness ", 0);
    }

    private static void tests() {
        run("\\ifnum1=1 \\fi", 0);
        for (char c = 0; c < 128; c++) {
            boolean relation = c == '<' || c == '=' || c == '>';
            if (c != 127 && c != '\\' && c != '~' && c != ' ' && c != 9 && c != 0 && c != 10 && c != '%'
                && !(c >= '0' && c <= '9')) {
                run("\\ifnum1" + c + "1\\fi", relation ? 0 : c == 13 ? 900001 : 600001);
            }
        }
        run("\\catcode`==11 \\ifnum1=1\\fi", 600001);
        run("\\let\\x==\\ifnum1\\x1\\fi", 600001);
        run("\\ifnum1   =1\\fi", 0);
        run("\\ifdim1pt;1pt\\fi", 600001);
        run("\\ifdim1=1pt\\fi", 600001);
        for (int a = 0; a < 3; a++) {
            for (String relation : new String[] {"<", "=", ">"}) {
                boolean holds = relation.equals("<") ? a < 1 : relation.equals("=") ? a == 1 : a > 1;
                count("\\ifnum" + a + relation + "1 \\count1=1 \\else\\count1=2 \\fi", holds ? 1 : 2);
                count("\\ifdim" + a + "sp" + relation + "1sp \\count1=1 \\else\\count1=2 \\fi", holds ? 1 : 2);
            }
        }
        count("\\ifnum-2147483647<2147483647 \\count1=1 \\fi", 1);
        count("\\ifnum2147483647>-2147483647 \\count1=1 \\fi", 1);
        count("\\ifdim-1073741823sp<1073741823sp\\count1=1 \\fi", 1);
        count("\\ifdim1sp>0sp\\count1=1 \\fi", 1);
        count("\\ifdim1sp=1sp\\count1=1 \\fi", 1);
        count("\\ifodd-2147483647 \\count1=1 \\fi", 1);
        count("\\ifodd2147483646 \\else\\count1=1 \\fi", 1);
        count("\\ifvoid0 \\advance\\count1 by 1 \\fi\\ifvoid255 \\advance\\count1 by 1 \\fi", 2);
        run("\\ifvoid256 \\fi", 700001);
        run("\\ifvoid-1 \\fi", 700001);
        // if and ifcat: others have 256, and 16.
        String same = "\\count1=1 \\else\\count1=2 \\fi";
        count("\\if\\relax\\par" + same, 1);
        count("\\ifcat\\relax\\par" + same, 1);
        count("\\chardef\\x=97 \\if a\\x" + same, 2);
        count("\\chardef\\x=97 \\ifcat a\\x" + same, 2);
        count("\\let\\x=a\\if\\x a" + same, 1);
        count("\\let\\x=a\\ifcat\\x b" + same, 1);
        count("\\let~=a\\if~a" + same, 1);
        count("\\if~\\relax" + same, 1);
        count("\\ifcat{\\x" + same, 2);
        count("\\ifcat$$" + same, 1);
        count("\\if{\\string{" + same, 1);
        count("\\ifcat{\\string{" + same, 2);
        for (char c : new char[] {1, 16, 17, 255}) {
            count("\\if\\relax" + c + same, 2);
        }
        count("\\if bc" + same, 2);
        count("\\if ab" + same, 2);
        count("\\if a!" + same, 2);
        String[] kinds = {"\\A", "\\B", "\\C", "\\D", "\\E", "\\F", "\\G", "\\s", "\\H", "\\I", "\\relax"};
        for (String one : kinds) {
            for (String other : kinds) {
                count("\\let\\A={\\let\\B=}\\let\\C=$\\let\\D=&\\let\\E=#\\let\\F=^\\let\\G=_\\let\\H=a\\let\\I=1\\def\\s{ }\\ifcat" + one
                    + other + same, one.equals(other) ? 1 : 2);
            }
        }
        // ifx.
        count("\\ifx\\u\\v" + same, 1);
        count("\\ifx~\\v" + same, 1);
        count("\\ifx\\u\\relax" + same, 2);
        count("\\let\\x=a\\ifx\\x a" + same, 1);
        count("\\ifx aA" + same, 2);
        count("\\chardef\\x=97 \\ifx\\x a" + same, 2);
        count("\\chardef\\x=97 \\chardef\\y=98 \\ifx\\x\\y" + same, 2);
        count("\\font\\x=0 at 5pt \\font\\y=0 at 5pt \\ifx\\x\\y" + same, 1);
        count("\\def\\x{a}\\def\\y{a}\\ifx\\x\\y" + same, 1);
        count("\\def\\x#1{a}\\def\\y{a}\\ifx\\x\\y" + same, 2);
        count("\\def\\x a{}\\def\\y{a}\\ifx\\x\\y" + same, 2);
        count("\\def\\x#1a{b}\\def\\y#1{ab}\\ifx\\x\\y" + same, 2);
        count("\\def\\x#1#2{#1}\\def\\y#1#2{#2}\\ifx\\x\\y" + same, 2);
        count("\\def\\x{ab}\\def\\y{a}\\ifx\\x\\y" + same, 2);
        count("\\def\\x{ab}\\def\\y{bb}\\ifx\\x\\y" + same, 2);
        count("\\def\\x{ab}\\def\\y{aa}\\ifx\\x\\y" + same, 2);
        count("\\def\\x{}\\gdef\\y{}\\ifx\\x\\y" + same, 1);
        count("\\let\\x=\\def\\ifx\\x\\def" + same, 1);
    }

    private static void dividers() {
        for (String d : new String[] {"\\else", "\\or", "\\fi"}) {
            run(d, 800001);
            run("\\iftrue\\fi" + d, 800001);
            run("\n" + d, 800002);
        }
        run("\\iftrue\\or\\fi", 800001);
        run("\\iffalse\\or\\fi", 800001);
        run("\\iffalse\\else\\or\\fi", 800001);
        run("\\iffalse\\else\\else\\fi", 800001);
        run("\\iftrue\\else\\else\\or\\fi", 0);
        run("\\ifcase0 \\or\\or\\else\\or\\else\\fi", 0);
        run("\\ifcase3 \\or\\else\\or\\fi", 800001);
        run("\\ifcase3 \\or\\else\\else\\fi", 800001);
        run("\\ifcase1 \\or\\else\\else\\or\\fi", 0);
        run("\\ifnum1=1\\or\\fi", 800001);
        // Met while a condition is not decided, they are put again behind a relax.
        run("\\ifnum1=1\\fi", 0);
        run("\\ifnum1=\\fi", 600001);
        run("\\ifnum\\fi", 600001);
        run("\\ifodd1\\fi", 0);
        run("\\ifcase0\\or\\fi", 0);
        run("\\ifcase1\\or\\fi", 0);
        run("\\if a\\fi", 0);
        run("\\if a\\else\\fi", 0);
        count("\\count1=1\\ifx\\fi\\fi2\\fi\\relax", 12);
        count("\\count1=1\\iftrue2\\else3\\fi4 ", 124);
        // Also where another condition has been before.
        count("\\iftrue\\fi\\ifnum1=2\\else\\count1=5 \\fi", 5);
        count("\\iffalse\\else\\fi\\ifcase1\\or\\count1=5 \\fi", 5);
        run("\\iftrue{\\else}\\fi", 900001);
        run("\\iftrue{\\else\\fi}", 0);
        run("\\let\\x=\\fi\\iftrue\\x", 0);
        run("\\let\\x=\\iftrue\\iffalse\\x\\fi\\u\\fi", 0);
        run("\\def\\x{\\fi}\\iffalse\\x\\u\\fi", 0);
    }

    private static void dropping() {
        run("\\iffalse", 900001);
        run("\\iffalse\\else", 900001);
        run("\\iftrue\\else", 900001);
        run("\\iffalse\\iftrue\\fi", 900001);
        run("\\ifcase1 ", 900001);
        run("\n\\iffalse\n\n", 900003);
        run("\\iftrue\n\n", 900002);
        run("\\iffalse}{#$\\u\\undefined\\par\\fi", 0);
        // The cases.
        for (int n = -2; n <= 5; n++) {
            int due = n < 0 || n > 2 ? 14 : 11 + n;
            digits("1\\ifcase" + n + " 1\\or2\\or3\\else4\\fi", due);
            digits("1\\ifcase" + n + " 1\\or2\\or3\\fi", n < 0 || n > 2 ? 1 : due);
            digits("1\\ifcase" + n + " 1\\else4\\fi", n == 0 ? 11 : 14);
        }
        digits("1\\ifcase2147483647 1\\or2\\fi", 1);
        digits("1\\ifcase-2147483647 1\\or2\\else3\\fi", 13);
        digits("1\\ifcase1 1\\ifcase0 5\\or6\\else7\\fi\\or2\\else3\\fi", 12);
        digits("1\\ifcase2 1\\iftrue\\or\\else\\fi\\or2\\or3\\fi", 13);
        // Conditions that were opened while another one was being decided.
        run("\\ifnum1<0\\iftrue\\fi\\else\\u\\fi", 1100001);
        count("\\ifnum0>1\\iftrue0\\fi\\relax\\count1=5 \\else\\count1=6 \\fi", 6);
        count("\\ifnum0>\\iftrue1 \\u\\else\\u\\or\\fi\\u\\else\\count1=6 \\fi", 6);
        count("\\ifnum0<\\iftrue1 \\count1=3 \\else\\u\\fi\\advance\\count1 by 1 \\else\\u\\fi", 4);
        count("\\ifcase\\iftrue1 \\u\\or\\u\\else\\u\\fi\\u\\or\\count1=7 \\fi", 7);
    }

    private static void mostConditions() {
        run("\\iftrue".repeat(100) + "\\fi".repeat(100), 0);
        run("\\iftrue".repeat(101), 200001);
        run("\\iffalse\\else".repeat(100) + "\\fi".repeat(100), 0);
        run("\\iffalse\\else".repeat(100) + "\\ifnum", 200001);
        run("\\iftrue\\else\\fi".repeat(150), 0);
        run("\\iffalse" + "\\iftrue".repeat(300) + "\\fi".repeat(301), 0);
        run("\\iftrue".repeat(100) + "\\iffalse", 200001);
        run("\\iftrue".repeat(99) + "\\iffalse\\fi" + "\\fi".repeat(99), 0);
        House h = new House();
        h.house.fuel(100);
        House.due("the tick comes first", h.run("\\iftrue".repeat(101)), 1000001);
        h.house.fuel(101);
        House.due("then the condition", h.run("\\iftrue".repeat(101)), 200001);
    }
}
