/** Promise 4, what 16 and 17: patterns and told words, and where they break words. */
public final class PatternTest {
    private static void patterns(String text, int due) {
        House.due("patterns '" + text + "'", new House().give(16, text), due);
    }

    private static void told(String text, int due) {
        House.due("told words '" + text + "'", new House().give(17, text), due);
    }

    public static void main(String[] args) {
        writtenPatterns();
        writtenWords();
        limits();
        nothingComesOfFaults();
        places();
        House.close();
    }

    private static void writtenPatterns() {
        patterns("", 0);
        patterns("   ", 0);
        patterns("a", 1);
        patterns("  .1a2B3. c0d  ", 2);
        patterns("a1", 1);
        patterns("a1.", 1);
        patterns(".", -100001);
        patterns(". a", -100001);
        patterns("1 a", -100001);
        patterns("1", -100001);
        patterns(".1", -100002);
        patterns("..a", -100001);
        patterns("1.a", -100001);
        patterns("a.b", -100002);
        patterns("a.1", -100002);
        patterns("a..", -100002);
        patterns("ab12", -100003);
        patterns("a\tb", -100001);
        patterns("a b-c", -100003);
        patterns("a \0", -100002);
        patterns("ab a1b", -300003);
        patterns("ab .ab ab. .ab. AB.", -300016);
        patterns("ab .ab ab. .ab.", 4);
    }

    private static void writtenWords() {
        told("", 0);
        told("a b-c D-E-f", 3);
        told("-a", -100000);
        told("a-", -100002);
        told("a- b", -100002);
        told("a--b", -100002);
        told("a1", -100001);
        told("a.", -100001);
        told("ab a-b AB", 3);
    }

    private static void limits() {
        String longest = "a".repeat(63);
        patterns(longest, 1);
        patterns("b " + longest + "a", -200002);
        patterns("b " + longest + "a!", -100066);
        told(longest, 1);
        told(longest + "-a", -200000);
        StringBuilder many = new StringBuilder();
        for (int i = 0; i < 1000; i++) {
            many.append((char) ('a' + i / 100)).append((char) ('a' + i / 10 % 10)).append((char) ('a' + i % 10)).append(' ');
        }
        patterns(many.toString(), 1000);
        patterns(many + "z", -404000);
        patterns(many + "aaa", -304000);
        StringBuilder words = new StringBuilder(many.substring(0, 1200));
        told(words.toString(), 300);
        told(words + "aaa z", -401204);
        StringBuilder large = new StringBuilder();
        for (int i = 0; i < 126; i++) {
            large.append((char) ('a' + i / 26)).append((char) ('a' + i % 26)).append("b".repeat(61)).append(' ');
        }
        patterns(large.toString(), 126);
        patterns(large + "c".repeat(62), 127);
        patterns(large + "c".repeat(62) + " z", -408127);
        told(large + "c".repeat(63), -408064);
    }

    private static void nothingComesOfFaults() {
        House h = new House();
        House.due("a pattern", h.give(16, "a1b"), 1);
        House.due("one that is there from before", h.give(16, "x1y a2b"), -300004);
        House.due("nothing came of it", h.house.clear(false), 1);
        House.due("a told word", h.give(17, "abc-def"), 1);
        House.due("a fault behind another one", h.give(17, "ab-cdef x-y -"), -100012);
        House.due("it is there as before", hyphened(h, "abcdef"), "abc- def");
        House.due("nothing came of it", h.house.clear(true), 1);
    }

    /** How a word is broken in lines that are too short for anything. */
    private static String hyphened(House h, String word) {
        h.give(0, new Metrics().plain().bytes());
        House.due(word, h.run("\\font\\f=0 \\f\\hsize1pt\\pretolerance-1 \\noindent " + word), 0);
        StringBuilder text = new StringBuilder();
        for (String item : h.pages().get(0).split(" ")) {
            if (item.length() == 1 && (Character.isLetter(item.charAt(0)) || item.equals("-"))) {
                text.append(item).append(item.equals("-") ? " " : "");
            }
        }
        return text.toString();
    }

    private static void breaks(String patterns, String words, String word, String due) {
        House h = new House();
        h.give(16, patterns);
        h.give(17, words);
        House.due(patterns + " in " + word, hyphened(h, word), due);
    }

    private static void places() {
        breaks("b1c", "", "abcde", "ab- cde");
        breaks("b1c", "", "AbCde", "Ab- Cde");
        breaks("b1c b2cd", "", "abcde", "abcde");
        breaks("b1c b2cd b3cde", "", "abcde", "ab- cde");
        breaks("a1b", "", "abcde", "abcde");
        breaks("c1d", "", "abcde", "abcde");
        breaks("c1d", "", "abcdef", "abc- def");
        breaks(".b1c", "", "abcde", "abcde");
        breaks(".ab1c", "", "abcde", "ab- cde");
        breaks("b1c.", "", "abcde", "abcde");
        breaks("b1cde.", "", "abcde", "ab- cde");
        breaks("b1", "", "abcde", "ab- cde");
        breaks("1c", "", "abcde", "ab- cde");
        breaks("1a", "", "aaaaaa", "aa- a- aaa");
        breaks("b1c", "abcde", "abcde", "abcde");
        breaks("b1c", "abc-def", "abcdef", "abc- def");
        breaks("b1c", "a-b-c-d-e-f", "abcdef", "ab- c- def");
        breaks("b1c", "abc-def", "abcdefg", "ab- cdefg");
        breaks("b1c", "", "abc1de", "abcde");
    }
}
