/** The boundaries of patterns and told words: what can't be written, their greatest numbers, and where words break. */
public final class TextBoundsTest {
    private static final int PATTERNS = 16;
    private static final int TOLD = 17;

    public static void main(String[] args) {
        charactersOfPatterns();
        charactersOfWords();
        moreMustCome();
        longest();
        twice();
        mostPatterns();
        mostWords();
        mostLetters();
        order();
        leftAndRight();
        values();
        longWords();
        kernsAndLigatures();
        House.close();
    }

    private static void text(int what, String text, int due) {
        House.due((what == TOLD ? "told words '" : "patterns '") + text + "'", new House().give(what, text), due);
    }

    private static void charactersOfPatterns() {
        for (int c = 0; c < 256; c++) {
            boolean letter = c >= 'a' && c <= 'z' || c >= 'A' && c <= 'Z';
            boolean digit = c >= '0' && c <= '9';
            boolean can = letter || digit || c == '.' || c == ' ';
            text(PATTERNS, "ab" + (char) c, can ? 1 : -100002);
            // At the begin of the first pattern.
            text(PATTERNS, (char) c + "q", can ? 1 : -100000);
        }
        text(PATTERNS, ".ab", 1);
        text(PATTERNS, "9a9b9", 1);
        text(PATTERNS, ".9a9b9.", 1);
        text(PATTERNS, "a00b", -100002);
        text(PATTERNS, "a1b23c", -100004);
        text(PATTERNS, "00a", -100001);
        text(PATTERNS, "a00", -100002);
        text(PATTERNS, "0.a", -100001);
        text(PATTERNS, "a.0", -100002);
        text(PATTERNS, "a.b", -100002);
        text(PATTERNS, "a. .b", 2);
        text(PATTERNS, "a.  .a", 2);
    }

    private static void charactersOfWords() {
        for (int c = 0; c < 256; c++) {
            boolean letter = c >= 'a' && c <= 'z' || c >= 'A' && c <= 'Z';
            text(TOLD, "ab" + (char) c + "d", letter || c == '-' ? 1 : c == ' ' ? 2 : -100002);
            text(TOLD, (char) c + "d", letter || c == ' ' ? 1 : -100000);
        }
        text(TOLD, "a--b", -100002);
        text(TOLD, "a -b", -100002);
        text(TOLD, "a- b", -100002);
        text(TOLD, "-", -100000);
    }

    private static void moreMustCome() {
        text(PATTERNS, "", 0);
        text(PATTERNS, " ", 0);
        text(PATTERNS, ".", -100001);
        text(PATTERNS, "5", -100001);
        text(PATTERNS, ".5", -100002);
        text(PATTERNS, "a .5", -100004);
        text(PATTERNS, ". ", -100001);
        text(PATTERNS, ".5 a", -100002);
        text(TOLD, "", 0);
        text(TOLD, " ", 0);
        text(TOLD, "a-", -100002);
        text(TOLD, "a b-", -100004);
    }

    private static void longest() {
        String most = "x".repeat(63);
        text(PATTERNS, most, 1);
        text(PATTERNS, most + "x", -200000);
        text(PATTERNS, ".9" + most.replace("x", "x9") + ".", 1);
        text(PATTERNS, "  .9" + most.replace("x", "x9") + "x9.", -200002);
        text(PATTERNS, "a " + "x".repeat(5000), -200002);
        text(TOLD, most, 1);
        text(TOLD, most + "x", -200000);
        text(TOLD, "x" + "-x".repeat(62), 1);
        text(TOLD, " x" + "-x".repeat(63), -200001);
        text(TOLD, "a " + "x".repeat(5000), -200002);
    }

    private static void twice() {
        text(PATTERNS, "ab ab", -300003);
        text(PATTERNS, "a1b AB", -300004);
        text(PATTERNS, ".ab .a1b", -300004);
        text(PATTERNS, "ab. 1ab.", -300004);
        text(PATTERNS, ".ab. ab .ab ab. .ab.", -300016);
        House h = new House();
        House.due("a pattern from before", h.give(PATTERNS, "ab cd"), 2);
        House.due("a pattern from before", h.give(PATTERNS, "x cd"), -300002);
        House.due("nothing comes of it", h.house.clear(false), 2);
        House.due("no more there", h.give(PATTERNS, "cd"), 1);
        House.due("told words take their place", h.give(TOLD, "ab-cde a-bcde AB-C-DE abc"), 4);
        House.due("those that were there count once", h.house.clear(true), 2);
    }

    private static String numbered(int from, int to, String more) {
        StringBuilder text = new StringBuilder();
        for (int i = from; i < to; i++) {
            text.append((char) ('a' + i / 100)).append((char) ('a' + i / 10 % 10)).append((char) ('a' + i % 10))
                .append(more).append(' ');
        }
        return text.toString();
    }

    private static void mostPatterns() {
        text(PATTERNS, numbered(0, 1000, ""), 1000);
        text(PATTERNS, numbered(0, 1001, ""), -404000);
        House h = new House();
        House.due("999", h.give(PATTERNS, numbered(0, 999, "")), 999);
        House.due("two more", h.give(PATTERNS, "z y"), -400002);
        House.due("one more", h.give(PATTERNS, " z "), 1);
        House.due("one that is there", h.give(PATTERNS, "z"), -300000);
        House.due("none more", h.give(PATTERNS, "y"), -400000);
        House.due("no text", h.give(PATTERNS, "  "), 0);
        House.due("told words are others", h.give(TOLD, "ab-cde"), 1);
        House.due("all patterns", h.house.clear(false), 1000);
        House.due("the told word stays", h.house.clear(true), 1);
        House.due("1000 come again", h.give(PATTERNS, numbered(0, 1000, "")), 1000);
    }

    private static void mostWords() {
        text(TOLD, numbered(0, 300, ""), 300);
        text(TOLD, numbered(0, 301, ""), -401200);
        House h = new House();
        House.due("299", h.give(TOLD, numbered(0, 299, "")), 299);
        House.due("two more", h.give(TOLD, "z y"), -400002);
        House.due("one more", h.give(TOLD, "z"), 1);
        House.due("one that is there", h.give(TOLD, "a-a-a z"), 2);
        House.due("none more", h.give(TOLD, "a-aa y"), -400005);
        House.due("patterns are others", h.give(PATTERNS, "ab"), 1);
        House.due("all told words", h.house.clear(true), 300);
        House.due("the pattern stays", h.house.clear(false), 1);
    }

    private static void mostLetters() {
        for (int what = PATTERNS; what <= TOLD; what++) {
            String most = numbered(0, 160, "q".repeat(47));
            text(what, most, 160);
            text(what, most + "z", -408160);
            text(what, most.substring(1), 160);
            text(what, most.substring(1) + "z", 161);
            text(what, most.substring(1) + "zz", -408159);
            House h = new House();
            House.due("7950 letters", h.give(what, most.substring(51)), 159);
            House.due("51 more", h.give(what, "z".repeat(51)), -400000);
            House.due("50 more", h.give(what, "z".repeat(50)), 1);
            House.due("one more", h.give(what, "y"), -400000);
            House.due("as many as there were", h.house.clear(what == TOLD), 160);
            House.due("8000 come again", h.give(what, most), 160);
        }
        House h = new House();
        House.due("8000 letters of patterns", h.give(PATTERNS, numbered(0, 160, "q".repeat(47))), 160);
        House.due("and of told words", h.give(TOLD, numbered(0, 160, "q".repeat(47))), 160);
        House.due("one that takes its place", h.give(TOLD, "a-a-a" + "q".repeat(47)), 1);
    }

    private static void order() {
        String many = numbered(0, 1000, "");
        text(PATTERNS, many + "x".repeat(64), -204000);
        text(PATTERNS, many + "x".repeat(64) + "!", -104064);
        text(PATTERNS, many + "aaa", -304000);
        text(PATTERNS, many + "aaa!", -104003);
        text(PATTERNS, many + "z!", -104001);
        text(PATTERNS, "ab ab !", -300003);
        text(PATTERNS, "ab ab!", -100005);
        text(PATTERNS, "x".repeat(64) + " !", -200000);
        text(TOLD, numbered(0, 300, "") + "x".repeat(64), -201200);
        text(TOLD, numbered(0, 300, "") + "x-", -101202);
        House h = new House();
        for (String bad : new String[] {"x1y !", "x1y ab12", "x1y " + "a".repeat(64), "x1y xy", many + " z"}) {
            int answer = h.give(PATTERNS, "q1r");
            House.due("a pattern", answer, 1);
            House.due("a fault", h.give(PATTERNS, bad) < 0 ? 1 : 0, 1);
            House.due("nothing comes of it", h.house.clear(false), 1);
        }
    }

    /** The lines of a word in a paragraph that is too narrow for anything. */
    private static String lines(House h, String word) {
        House.due("a font", h.give(0, new Metrics().plain().bytes()), 0);
        House.due(word, h.run("\\font\\f=0 \\f\\hsize1pt\\noindent " + word), 0);
        StringBuilder text = new StringBuilder();
        String line = "10";
        for (String page : h.pages()) {
            String[] marks = page.split(" ");
            for (int i = 0; i + 2 < marks.length; i += 3) {
                text.append(marks[i + 2].equals(line) ? "" : " ").append(marks[i]);
                line = marks[i + 2];
            }
        }
        return text.toString();
    }

    private static void breaks(String patterns, String told, String word, String due) {
        House h = new House();
        House.due(patterns, h.give(PATTERNS, patterns) >= 0 ? 1 : 0, 1);
        House.due(told, h.give(TOLD, told) >= 0 ? 1 : 0, 1);
        House.due(patterns + " and " + told + " in " + word, lines(h, word), due);
    }

    private static void leftAndRight() {
        breaks("1a", "", "a", "a");
        breaks("1a", "", "aaaa", "aaaa");
        breaks("1a", "", "aaaaa", "aa- aaa");
        breaks("1a", "", "aaaaaa", "aa- a- aaa");
        breaks("", "a-aaaa", "aaaaa", "aaaaa");
        breaks("", "aa-aaa", "aaaaa", "aa- aaa");
        breaks("", "aaa-aa", "aaaaa", "aaaaa");
        breaks("", "a-a-a-a-a", "aaaaa", "aa- aaa");
    }

    private static void values() {
        for (int v = 0; v <= 9; v++) {
            breaks("b" + v + "c", "", "abcde", v % 2 == 1 ? "ab- cde" : "abcde");
        }
        breaks("b1c 8b7cd b8cde", "", "abcde", "abcde");
        breaks("b1c b2cd .ab9", "", "abcde", "ab- cde");
        breaks("b8c b9cd", "", "abcde", "ab- cde");
        breaks("b9c b8cd", "", "abcde", "ab- cde");
        breaks("bc", "", "abcde", "abcde");
        // A pattern fits wherever its letters are.
        breaks("b1c", "", "abcabcabc", "ab- cab- cabc");
        breaks("abcd1e", "", "abcde", "abcde");
        breaks("ab1cde", "", "abcde", "ab- cde");
        breaks("ab1cdef", "", "abcde", "abcde");
        breaks(".ab1cde.", "", "abcde", "ab- cde");
        breaks(".ab1cde.", "", "abcdef", "abcdef");
        breaks(".ab1cde.", "", "xabcde", "xabcde");
        breaks(".b1c", "", "abcde", "abcde");
        breaks("d1ef.", "", "abcdef", "abcdef");
        breaks("c1def.", "", "abcdef", "abc- def");
        breaks("c1de.", "", "abcdef", "abcdef");
        // All its letters must be there, and each pattern has its own numbers.
        breaks("b1x", "", "abcde", "abcde");
        breaks("b1cdx", "", "abcde", "abcde");
        breaks("b1xde", "", "abcde", "abcde");
        breaks("x1y bc", "", "abcde", "abcde");
        breaks("b1c b3cd b2cde", "", "abcde", "ab- cde");
        breaks("b2c b1cd b2cde", "", "abcde", "abcde");
        breaks("q1r b2c x9y9z", "", "abcdefghi", "abcdefghi");
        breaks("x9y9z b2c", "", "abcdefghi", "abcdefghi");
        // Told words come before patterns, for words that are just these.
        breaks("b1c", "abcde", "abcde", "abcde");
        breaks("b1c", "abcde", "ABCDE", "ABCDE");
        breaks("b1c", "abcde", "abcdef", "ab- cdef");
        breaks("b2c", "ab-cde", "abcde", "ab- cde");
        breaks("", "ab-cde abcde", "abcde", "abcde");
        breaks("", "abcde ab-cde", "abcde", "ab- cde");
        House h = new House();
        h.give(PATTERNS, "b1c");
        h.give(TOLD, "abc-def");
        h.house.clear(false);
        House.due("patterns that went", lines(h, "xbcdef"), "xbcdef");
        House.due("told words are there still", lines(h, "abcdef"), "abc- def");
        House.due("a faulty text", h.give(TOLD, "ab-cdef -"), -100008);
        House.due("and one more", h.give(TOLD, "x-yz"), 1);
        House.due("nothing came of the former", lines(h, "abcdef"), "abc- def");
        h.give(PATTERNS, "b1c");
        h.house.clear(true);
        House.due("told words that went", lines(h, "abcdef"), "ab- cdef");
    }

    private static void longWords() {
        String most = "a" + "b".repeat(61) + "c";
        breaks("1c", "", "bb" + "c".repeat(3), "bb- ccc");
        breaks(".ab1b", "", most, "ab- " + "b".repeat(60) + "c");
        breaks(".ab1b", "", "b".repeat(1) + most, "b" + most);
        breaks(".ab1b", "", most + "d", most + "d");
        breaks("", "a".repeat(60) + "-aaa", "a".repeat(63), "a".repeat(60) + "- aaa");
        breaks(".ab1" + "b".repeat(60) + "c.", "", most, "ab- " + "b".repeat(60) + "c");
        // The 65th character begins another word.
        breaks(".ab1c", "", "x".repeat(64) + "abcde", "x".repeat(64) + "ab- cde");
        breaks(".ab1c", "", "x".repeat(63) + "abcde", "x".repeat(63) + "abcde");
        // Other characters than letters.
        breaks("b1c", "", "abc@e", "abc@e");
        breaks("b1c", "", "@bcde", "@bcde");
        // With its character 45 a word is not of letters alone.
        breaks("b1c", "", "abcde-abcde", "abcde- ab- cde");
    }

    /** The word abcde with a pattern between b and c, in a font that sets it otherwise than its parts. */
    private static void noHyphen(Metrics m, String letters) {
        House h = new House();
        h.give(PATTERNS, "b1c");
        House.due("a font", h.give(0, m.bytes()), 0);
        House.due(letters, h.run("\\font\\f=0 \\f\\hsize1pt\\noindent abcde"), 0);
        StringBuilder due = new StringBuilder();
        int x = 0;
        for (String letter : letters.split(" ")) {
            due.append(due.isEmpty() ? "" : " ").append(letter).append(" ").append(x).append(" 10");
            x += 5;
        }
        House.due(letters, h.pages().get(0), due.toString());
    }

    private static void kernsAndLigatures() {
        House h = new House();
        h.give(PATTERNS, "b1c c1d");
        // b and c get a ligature Q with c behind it: both places would come behind its first items.
        Metrics m = new Metrics().plain().start('b', 0).step(128, 'c', 1, 'Q');
        House.due("a font", h.give(0, m.bytes()), 0);
        House.due("a ligature", h.run("\\font\\f=0 \\f\\hsize1pt\\noindent abcdef"), 0);
        House.due("no hyphen where the items are others", h.pages().get(0),
            "a 0 10 Q 5 10 c 10 10 - 15 10 d 0 22 e 5 22 f 10 22");
        // A character for c, behind b alone; characters or more than a kern between b and c; b twice. No hyphen comes there.
        Metrics other = new Metrics().plain().start('b', 0).step(128, 'c', 2, 'Q');
        noHyphen(other, "a b Q d e");
        Metrics between = new Metrics().plain().start('b', 0).step(128, 'c', 3, 'Q');
        noHyphen(between, "a b Q c d e");
        Metrics least = new Metrics();
        least.first = 0;
        noHyphen(least.plain().start('b', 0).step(128, 'c', 3, 0), "a b \0 c d e");
        Metrics two = new Metrics().plain().start('b', 0).start('Q', 1).step(128, 'c', 3, 'Q').step(128, 'c', 128, 0);
        two.kerns.add(0);
        noHyphen(two, "a b Q c d e");
        Metrics common = new Metrics().plain().start('b', 1).step(128, 'c', 0, 'b').step(128, 'c', 0, 'b').step(255, 0, 0, 0);
        noHyphen(common, "a b d e");
        Metrics front = new Metrics().plain().step(255, 'Z', 0, 0).start('a', 1).start('c', 2).step(128, 'b', 0, 'c')
            .step(0, 'c', 0, 'c').step(128, 'Z', 3, 'c');
        noHyphen(front, "c d e");
        // Too much asking for a part alone leaves no hyphen there: at the edge behind b it has no end.
        Metrics endless = new Metrics().plain().step(255, 'Z', 0, 0).start('b', 1).step(128, 'Z', 3, 'b');
        House.due("a font", h.give(0, endless.bytes()), 0);
        House.due("a part is TOO MANY", h.run("\\font\\f=0 \\f\\hsize1pt\\noindent abcdef"), 0);
        House.due("a part is TOO MANY", h.pages().get(0), "a 0 10 b 5 10 c 10 10 - 15 10 d 0 22 e 5 22 f 10 22");
    }
}
