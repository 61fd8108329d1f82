import java.util.Arrays;

/** The boundaries of font files: each fault at the last file without it and the first one with it, and their order. */
public final class FontBoundsTest {
    public static void main(String[] args) {
        lengths();
        twelveNumbers();
        characters();
        parts();
        designSizes();
        places();
        tags();
        largerCharacters();
        fractions();
        programs();
        recipes();
        parameters();
        order();
        slotsStay();
        scaled();
        edges();
        asking();
        House.close();
    }

    private static Metrics plain() {
        return new Metrics().plain();
    }

    private static void fault(String sentence, byte[] file, int due) {
        House.due(sentence, new House().give(7, file), due);
    }

    private static void fault(String sentence, Metrics m, int due) {
        fault(sentence, m.bytes(), due);
    }

    private static byte[] with(byte[] file, int i, int value) {
        byte[] b = file.clone();
        b[2 * i] = (byte) (value >> 8);
        b[2 * i + 1] = (byte) value;
        return b;
    }

    /** A file of so many words: kerns fill it. */
    private static Metrics ofWords(int words) {
        Metrics m = plain();
        while (m.words() < words) {
            m.kerns.add(0);
        }
        return m;
    }

    private static void lengths() {
        fault("a font file has 8192 bytes at most", ofWords(2048), 0);
        fault("more than 8192 bytes: fault 4", ofWords(2049), 4);
        fault("more than 8192 bytes: fault 4, also of no whole words", Arrays.copyOf(ofWords(2048).bytes(), 8193), 4);
        byte[] bad = ofWords(2049).bytes();
        Arrays.fill(bad, 0, 24, (byte) 255);
        fault("before all others", bad, 4);
        fault("but not with 8192 bytes", Arrays.copyOf(bad, 8192), 1);
        fault("the whole tape", new byte[65520], 4);
        byte[] ones = new byte[24];
        Arrays.fill(ones, (byte) 255);
        for (int n = 0; n < 24; n++) {
            fault("less than 24 bytes", Arrays.copyOf(plain().bytes(), n), 1);
        }
        fault("just 24 bytes", Arrays.copyOf(plain().bytes(), 24), 4);
        fault("24 bytes of 255", ones, 1);
    }

    private static void twelveNumbers() {
        for (int i = 0; i < 12; i++) {
            fault("number " + i + " above 32767", with(plain().bytes(), i, 32768), 1);
            fault("number " + i + " is 65535", with(plain().bytes(), i, 65535), 1);
            int due = i == 2 || i == 3 ? 2 : i == 10 ? 3 : 4;
            fault("number " + i + " is 32767", with(plain().bytes(), i, 32767), due);
        }
    }

    private static Metrics without(int first, int last) {
        Metrics m = plain();
        m.characters.clear();
        m.first = first;
        m.last = last;
        return m;
    }

    private static void characters() {
        fault("bc may be ec + 1", without(1, 0), 0);
        fault("bc above ec + 1", without(2, 0), 2);
        fault("ec may be 255", without(256, 255), 0);
        fault("bc above 256", without(257, 255), 2);
        fault("ec above 255", without(257, 256), 2);
        Metrics all = new Metrics();
        all.first = 0;
        all.last = 255;
        fault("characters 0 .. 255", all.plain(), 0);
        Metrics one = without(0, 0);
        one.characters.add(new int[] {1, 16, 0, 0});
        fault("character 0 alone", one, 0);
        one.first = 255;
        one.last = 255;
        fault("character 255 alone", one, 0);
    }

    private static void parts() {
        fault("lh is 2 at least", with(plain().bytes(), 1, 1), 3);
        fault("lh is 0", with(plain().bytes(), 1, 0), 3);
        for (int i = 4; i < 8; i++) {
            fault("part " + i + " has no words", with(plain().bytes(), i, 0), 3);
        }
        Metrics least = without(1, 0);
        least.widths.subList(1, 3).clear();
        least.heights.subList(1, 2).clear();
        least.depths.subList(1, 2).clear();
        least.parameters.clear();
        fault("the smallest file", least, 0);
        Metrics m = plain();
        for (int i = 0; i < 256; i++) {
            m.recipes.add(new int[] {0, 0, 0, 'a'});
        }
        fault("256 recipes", m, 0);
        m.recipes.add(new int[] {0, 0, 0, 'a'});
        fault("257 recipes", m, 3);
        byte[] b = plain().bytes();
        int words = plain().words();
        fault("lf is one less", with(b, 0, words - 1), 4);
        fault("lf is one more", with(b, 0, words + 1), 4);
        for (int i = 4; i < 12; i++) {
            int n = plain().numbers()[i];
            fault("another number of words in part " + i, with(b, i, n + 1), 4);
        }
        fault("lh is one more", with(b, 1, 3), 4);
        fault("a byte less", Arrays.copyOf(b, b.length - 1), 4);
        fault("a byte more", Arrays.copyOf(b, b.length + 1), 4);
        fault("a word less", Arrays.copyOf(b, b.length - 4), 4);
        fault("a word more", Arrays.copyOf(b, b.length + 4), 4);
    }

    private static void designSizes() {
        int[][] sizes = {{1 << 20, 0}, {(1 << 20) - 1, 5}, {0, 5}, {-1, 5}, {Integer.MIN_VALUE, 5}, {Integer.MAX_VALUE, 0}};
        for (int[] size : sizes) {
            Metrics m = plain();
            m.design = size[0];
            fault("the design size " + size[0], m, size[1]);
        }
        House h = House.withFont();
        Metrics m = plain();
        m.design = Integer.MAX_VALUE;
        h.give(1, m.bytes());
        House.due("the greatest design size is a size of 134217727",
            h.run("\\font\\a=1 \\font\\b=1 at 134217727sp\\count1=1\\ifx\\a\\b\\else0\\fi\\relax"), 0);
        House.due("the greatest design size", h.house.count(1), 1);
        m.design = (1 << 20) + 15;
        h.give(1, m.bytes());
        House.due("16 times less, rounded down",
            h.run("\\font\\a=1 \\font\\b=1 at 65536sp\\count1=1\\ifx\\a\\b\\else0\\fi\\relax"), 0);
        House.due("16 times less, rounded down", h.house.count(1), 1);
    }

    private static void places() {
        int[][] good = {{2, 0, 0, 0}, {1, 16, 0, 0}, {1, 1, 0, 0}, {1, 17, 0, 0}};
        int[][] bad = {{3, 0, 0, 0}, {1, 32, 0, 0}, {1, 2, 0, 0}, {1, 0, 4, 0}, {0, 32, 0, 0}, {0, 2, 0, 0}, {0, 0, 4, 0}};
        for (int c : new int[] {0, 50, 93}) {
            for (int[] word : good) {
                Metrics m = plain();
                m.characters.set(c, word);
                fault("the last place of its part", m, 0);
            }
            for (int[] word : bad) {
                Metrics m = plain();
                m.characters.set(c, word);
                fault("a width, height, depth or italic at no place, also of one that is not there", m, 6);
            }
        }
        Metrics m = plain();
        for (int i = 1; i < 64; i++) {
            m.italics.add(0);
        }
        m.characters.set(5, new int[] {1, 16, 252, 0});
        fault("italic 63", m, 0);
        m.italics.remove(63);
        fault("italic 63 of 63", m, 6);
        m = plain();
        for (int i = 2; i < 16; i++) {
            m.heights.add(0);
            m.depths.add(0);
        }
        m.characters.set(5, new int[] {1, 255, 0, 0});
        fault("height and depth 15", m, 0);
        m.depths.remove(15);
        fault("depth 15 of 15", m, 6);
        m.depths.add(Metrics.HALF / 4);
        m.heights.set(14, Metrics.HALF / 8);
        m.characters.set('b' - 33, new int[] {1, 15, 0, 0});
        m.characters.set('c' - 33, new int[] {1, 14 * 16 + 15, 0, 0});
        House h = new House();
        House.due("a font", h.give(0, m.bytes()), 0);
        House.due("heights and depths", h.run("\\font\\f=0 \\f\\setbox1\\hbox{b}\\setbox2\\hbox{c}\\count1=\\ht1 \\count2=\\dp1 "
            + "\\count3=\\ht2 \\count4=\\dp2 "), 0);
        int[] due = {0, 81920, 40960, 81920};
        for (int i = 0; i < 4; i++) {
            House.due("height and depth at their places", h.house.count(i + 1), due[i]);
        }
    }

    private static void tags() {
        for (int c : new int[] {0, 50, 93}) {
            Metrics m = plain().step(128, 'a', 0, 'b').step(128, 'a', 0, 'b');
            m.characters.set(c, new int[] {1, 16, 1, 1});
            fault("the last place of the program", m, 0);
            m.characters.set(c, new int[] {1, 16, 1, 2});
            fault("a program at no place", m, 7);
            m.characters.set(c, new int[] {0, 16, 1, 2});
            fault("characters that are not there have no tag: program", m, 0);
            m = plain();
            m.recipes.add(new int[] {0, 0, 0, 'a'});
            m.recipes.add(new int[] {0, 0, 0, 'a'});
            m.characters.set(c, new int[] {1, 16, 3, 1});
            fault("the last place of the recipes", m, 0);
            m.characters.set(c, new int[] {1, 16, 3, 2});
            fault("a recipe at no place", m, 7);
            m.characters.set(c, new int[] {0, 16, 3, 2});
            fault("characters that are not there have no tag: recipe", m, 0);
            m.characters.set(c, new int[] {0, 16, 2, 0});
            fault("characters that are not there have no tag: next larger", m, 0);
        }
    }

    private static void largerCharacters() {
        int[][] ends = {{33, 0}, {126, 0}, {32, 7}, {127, 7}, {0, 7}, {255, 7}};
        for (int[] end : ends) {
            Metrics m = plain();
            m.characters.set('m' - 33, new int[] {1, 16, 2, end[0]});
            fault("a next larger character " + end[0], m, end[1]);
        }
        Metrics m = plain();
        m.widths.set(0, 1 << 24);
        m.characters.set('m' - 33, new int[] {1, 16, 2, 127});
        fault("none behind ec, whatever the first width is", m, 7);
        m = plain();
        m.characters.set('n' - 33, new int[] {0, 16, 0, 0});
        m.characters.set('m' - 33, new int[] {1, 16, 2, 'n'});
        fault("within bc .. ec, but not there", m, 7);
        m = plain();
        m.characters.set('m' - 33, new int[] {1, 16, 2, 'm'});
        fault("a character that is its own next larger one", m, 7);
        for (int n : new int[] {2, 3, 93}) {
            m = plain();
            for (int c = 0; c < n; c++) {
                m.characters.set(c, new int[] {1, 16, 2, 33 + c + 1});
            }
            fault("a row of steps", m, 0);
            m.characters.set(n, new int[] {1, 16, 2, 33});
            fault("steps that lead back to the first one", m, 7);
        }
    }

    private static void fractions() {
        for (int part = 0; part < 5; part++) {
            for (int a : new int[] {0, 1, 127, 128, 254, 255}) {
                Metrics m = plain();
                m.kerns.add(0);
                m.italics.add(0);
                m.kerns.add(0);
                java.util.List<Integer> words = part == 0 ? m.widths : part == 1 ? m.heights : part == 2 ? m.depths
                    : part == 3 ? m.italics : m.kerns;
                words.set(words.size() - 1, a << 24 | 5);
                fault("the last word of part " + part + " begins with " + a, m, a == 0 || a == 255 ? 0 : 8);
            }
            for (int first : new int[] {1, 1 << 8, 1 << 16, 255 << 24}) {
                Metrics m = plain();
                m.kerns.add(0);
                java.util.List<Integer> words = part == 0 ? m.widths : part == 1 ? m.heights : part == 2 ? m.depths
                    : part == 3 ? m.italics : m.kerns;
                words.set(0, first);
                fault("the first word of part " + part + " is " + first, m, part == 4 ? 0 : 8);
            }
        }
    }

    private static void programs() {
        Metrics m = plain().step(129, 0, 0, 1).step(128, 'a', 0, 'b');
        fault("a jump to the last place", m, 0);
        m.program.set(0, new int[] {129, 0, 0, 2});
        fault("a jump behind it", m, 9);
        m.program.set(0, new int[] {129, 0, 1, 0});
        fault("a jump to 256", m, 9);
        m.program.set(0, new int[] {254, 0, 0, 1});
        fault("what else is in a jump is free", m, 0);
        m.program.set(0, new int[] {128, 0, 0, 1});
        fault("128 is no jump", m, 9);
        fault("next is bc", plain().step(128, 33, 0, 'b'), 0);
        fault("next is below bc", plain().step(128, 32, 0, 'b'), 9);
        fault("next is ec", plain().step(128, 126, 0, 'b'), 0);
        fault("next is above ec", plain().step(128, 127, 0, 'b'), 9);
        fault("next is the edge", plain().step(255, 127, 0, 0).step(128, 127, 0, 'b'), 0);
        fault("next is another one than the edge", plain().step(255, 127, 0, 0).step(128, 128, 0, 'b'), 9);
        fault("254 makes no edge", plain().step(254, 127, 0, 0).step(128, 127, 0, 'b'), 9);
        fault("255 in another word makes no edge", plain().step(129, 0, 0, 0).step(255, 127, 0, 0)
            .step(128, 127, 0, 'b'), 9);
        fault("a ligature with the edge, which is not there", plain().step(255, 127, 0, 0).step(128, 'a', 0, 127), 9);
        fault("a ligature with bc", plain().step(128, 'a', 127, 33), 0);
        fault("a ligature with less", plain().step(128, 'a', 127, 32), 9);
        fault("a ligature with ec", plain().step(128, 'a', 0, 126), 0);
        fault("a ligature with more", plain().step(128, 'a', 0, 127), 9);
        m = plain().step(128, 'a', 128, 1);
        m.kerns.add(0);
        fault("kern 1 of one", m, 9);
        m.kerns.add(0);
        fault("kern 1 of two", m, 0);
        m = plain().step(128, 'a', 129, 0);
        for (int i = 0; i < 256; i++) {
            m.kerns.add(0);
        }
        fault("kern 256 of 256", m, 9);
        m.kerns.add(0);
        fault("kern 256 of 257", m, 0);
        m = plain();
        for (int i = 0; i < 129; i++) {
            m.step(128, 'a', 0, 'b');
        }
        m.program.set(0, new int[] {127, 'a', 0, 'b'});
        fault("128 places further", m, 0);
        m.program.remove(128);
        fault("and no word is there", m, 9);
        m.program.set(0, new int[] {128, 'a', 0, 'b'});
        fault("128 goes no further", m, 0);
        m = plain();
        for (int i = 0; i < 300; i++) {
            m.step(128, 'a', 0, 'b');
        }
        m.program.set(0, new int[] {200, 0, 1, 43});
        m.program.set(299, new int[] {128, 'b', 0, 'c'});
        fault("a jump to the last place of 300", m.start('a', 0), 0);
        row("a jump to 299", m, "ab", "c 0");
        m.program.set(0, new int[] {200, 0, 1, 44});
        fault("a jump behind it", m, 9);
        fault("the last word must end it", plain().step(0, 'a', 0, 'b'), 9);
    }

    private static void recipes() {
        int[][] rows = {{0, 0, 0, 0, 10}, {0, 0, 0, 33, 0}, {0, 0, 0, 126, 0}, {0, 0, 0, 32, 10}, {0, 0, 0, 127, 10},
            {33, 126, 33, 'a', 0}, {32, 0, 0, 'a', 10}, {0, 127, 0, 'a', 10}, {0, 0, 255, 'a', 10}};
        for (int[] row : rows) {
            Metrics m = plain();
            m.recipes.add(new int[] {0, 0, 0, 'a'});
            m.recipes.add(Arrays.copyOf(row, 4));
            fault("recipe " + Arrays.toString(row), m, row[4]);
        }
        Metrics zero = new Metrics();
        zero.first = 0;
        zero.plain();
        zero.recipes.add(new int[] {0, 0, 0, 0});
        fault("a recipe of character 0 that is there", zero, 0);
    }

    private static void parameters() {
        for (int i = 0; i < 6; i++) {
            for (int a : new int[] {0, 1, 254, 255}) {
                Metrics m = plain();
                m.parameters.set(i, a << 24);
                fault("parameter " + (i + 1) + " begins with " + a, m, i == 0 || a == 0 || a == 255 ? 0 : 11);
            }
        }
        Metrics m = plain();
        m.parameters.clear();
        fault("no parameters", m, 0);
        m = plain();
        m.recipes.add(new int[] {0, 0, 0, 'a'});
        m.parameters.set(0, 200 << 24);
        fault("the first parameter may be anything, also behind recipes", m, 0);
        for (int check : new int[] {0, -1, Integer.MIN_VALUE, Integer.MAX_VALUE}) {
            m = plain();
            m.check = check;
            House h = new House();
            House.due("any check", h.give(0, m.bytes()), 0);
            House.due("a run", h.run("\\font\\f=0 \\f\\hbox{a}"), 0);
            int at = 15 + 46 + 4 + 2;
            for (int i = 0; i < 4; i++) {
                House.due("it is in the file", h.house.out(at + i), check >> 24 - 8 * i & 255);
            }
        }
    }

    /** What makes fault k and leaves the ones before it alone; all from one k on stand together. */
    private static void spoil(Metrics m, int k) {
        switch (k) {
            case 5:
                m.design = 0;
                break;
            case 6:
                m.characters.set(10, new int[] {1, 32, 0, 0});
                break;
            case 7:
                m.characters.set(11, new int[] {1, 16, 3, 200});
                break;
            case 8:
                m.kerns.add(1 << 24);
                break;
            case 9:
                m.step(128, 200, 0, 'a');
                break;
            case 10:
                m.recipes.add(new int[] {0, 0, 0, 200});
                break;
            default:
                m.parameters.set(5, 1 << 24);
                break;
        }
    }

    private static void order() {
        for (int first = 5; first <= 11; first++) {
            for (int second = first; second <= 11; second++) {
                Metrics m = plain();
                spoil(m, second);
                spoil(m, first);
                fault("fault " + first + " comes before " + second, m, first);
                byte[] b = m.bytes();
                fault("4 comes before " + first, Arrays.copyOf(b, b.length + 4), 4);
                fault("3 comes before " + first, with(b, 4, 0), 3);
                fault("2 comes before " + first, with(b, 3, 256), 2);
                fault("1 comes before " + first, with(b, 0, 40000), 1);
            }
        }
        fault("1 comes before 2", with(with(plain().bytes(), 3, 256), 11, 32768), 1);
        fault("2 comes before 3", with(with(plain().bytes(), 3, 256), 1, 0), 2);
        fault("3 comes before 4", with(with(plain().bytes(), 1, 0), 0, 9), 3);
        Metrics edge = plain().step(255, 127, 0, 9).step(128, 127, 0, 'b');
        fault("the edge's own word may be at fault", edge, 9);
    }

    private static void slotsStay() {
        House h = House.withFont();
        for (int k = 5; k <= 11; k++) {
            Metrics m = plain();
            m.widths.set(1, Metrics.HALF / 4);
            spoil(m, k);
            House.due("fault " + k, h.give(0, m.bytes()), k);
            House.due("the slot stays as it was", h.run("\\font\\f=0 \\f\\setbox1\\hbox{a}\\count1=\\wd1 "), 0);
            House.due("the slot stays as it was", h.house.count(1), 327680);
            House.due("an empty slot stays empty", h.give(3, m.bytes()), k);
            House.due("an empty slot stays empty", h.run("\\font\\f=3 "), 1400001);
        }
        Metrics other = plain();
        other.widths.set(1, Metrics.HALF / 4);
        House.due("another file takes its place", h.give(0, other.bytes()), 0);
        House.due("another file takes its place", h.run("\\font\\f=0 \\f\\setbox1\\hbox{a}\\count1=\\wd1 "), 0);
        House.due("another file takes its place", h.house.count(1), 81920);
        House.due("in the last slot too", h.give(15, other.bytes()), 0);
        House.due("in the last slot too", h.run("\\font\\f=15 \\f\\hbox{a}"), 0);
    }

    /** The width of a character whose fraction is given, by a font at a size. */
    private static void width(int fraction, int size, int due) {
        Metrics m = plain();
        m.widths.set(1, fraction);
        House h = new House();
        House.due("a file", h.give(0, m.bytes()), 0);
        House.due("a run", h.run("\\font\\f=0 at " + size + "sp \\f\\setbox1\\hbox{a}\\count1=\\wd1 "), 0);
        House.due(fraction + " scaled by " + size, h.house.count(1), due);
    }

    private static void scaled() {
        width(1, 1, 0);
        width(1 << 20, 1, 1);
        width((1 << 20) - 1, 1, 0);
        width(0xff000000, 1, -16);
        width(0xff000001, 1, -16);
        width(0xffffffff, 1, -1);
        width(0xfff00000, 1, -1);
        width(1 << 20, 8388607, 8388607);
        width(3, 8388607, 23);
        // From here on the size is halved, and what is lost by that stays lost.
        width(1 << 20, 8388608, 8388608);
        width(1 << 20, 8388609, 8388608);
        width(1 << 20, 16777215, 16777214);
        width(1 << 20, 16777217, 16777216);
        width(1 << 20, 134217727, 134217712);
        width(0xfff00000, 134217727, -134217712);
        width((8 << 20) - 1, 134217727, 1073741568);
        width(0xff800000, 134217727, -1073741696);
    }

    private static void row(String sentence, Metrics m, String word, String due) {
        House h = new House();
        House.due(sentence, h.give(0, m.bytes()), 0);
        House.due(sentence, h.run("\\font\\f=0 \\f\\hbox{" + word + "}"), 0);
        House.due(sentence, h.pages().get(0), due.replaceAll("(\\S) (\\S+)", "$1 $2 10"));
    }

    private static void edges() {
        Metrics kern = plain().step(255, 'Z', 0, 0).step(0, 'a', 128, 0).step(128, 'Z', 128, 0).step(255, 0, 0, 1);
        kern.kerns.add(Metrics.HALF / 4);
        row("a kern between the edge and a character", kern, "ab", "a 1.25 b 6.25");
        Metrics behind = plain().step(255, 'Z', 0, 0).start('a', 1).step(128, 'Z', 0, 'E');
        row("without the edge's program no edge comes before", behind, "aa", "a 0 E 5");
        row("the edge's character itself is asked for likewise", behind, "aZ", "E 0");
        Metrics before = plain().step(128, 'a', 2, 'E').step(255, 0, 0, 0);
        row("without an edge none comes behind", before, "aa", "E 0 a 5");
        Metrics jumping = plain().step(128, 'a', 2, 'E').step(200, 0, 0, 0).step(255, 0, 0, 1);
        row("the edge's program may begin elsewhere", jumping, "aa", "E 0 a 5");
        Metrics twice = plain().step(128, 'a', 2, 'E').step(200, 0, 0, 0).step(200, 0, 0, 1).step(255, 0, 0, 2);
        row("but only once: nothing is found where skip is above 128", twice, "aa", "a 0 a 5");
        Metrics middle = plain().start('a', 0).step(0, 'x', 0, 'y').step(129, 'b', 0, 0).step(128, 'b', 0, 'E');
        row("a skip above 128 on the way: nothing is found", middle, "ab", "a 0 b 5");
        Metrics over = plain().start('a', 0).step(1, 'x', 0, 'y').step(129, 'b', 0, 0).step(128, 'b', 0, 'E');
        row("but a word may be skipped", over, "ab", "E 0");
        Metrics zero = plain().step(255, 0, 0, 0).start('a', 1).step(128, 0, 0, 'E');
        row("the edge may be 0", zero, "aa", "a 0 E 5");
        Metrics begins = plain().start('a', 0).step(129, 0, 0, 1).step(128, 'b', 0, 'E');
        row("a program that begins where skip is 129 begins elsewhere", begins, "ab", "E 0");
        Metrics begun = plain().start('a', 0).step(128, 'b', 0, 'E').step(128, 'b', 0, 'F');
        row("where skip is 128 it begins there", begun, "ab", "E 0");
        Metrics far = plain().start('a', 0);
        for (int i = 0; i < 130; i++) {
            far.step(128, 'b', 0, 'F');
        }
        far.program.set(0, new int[] {127, 'x', 0, 'y'});
        row("a skip of 127 goes on 128 places further", far, "ab", "F 0");
        far.program.set(0, new int[] {128, 'x', 0, 'y'});
        row("a skip of 128 goes no further", far, "ab", "a 0 b 5");
        Metrics slanted = plain().start('a', 0).step(128, 'b', 0, 'E');
        slanted.italics.add(Metrics.HALF / 2);
        slanted.characters.get('a' - 33)[2] = 4 + 1;
        row("an italic beside the tag", slanted, "ab", "E 0");
        slanted.characters.get('a' - 33)[2] = 4;
        row("an italic without a tag", slanted, "ab", "a 0 b 5");
        row("u is 1", plain().start('a', 0).start('c', 1).start('d', 2).step(128, 'b', 4, 'c').step(128, 'd', 0, 'X')
            .step(128, 'e', 0, 'Y'), "abde", "c 0 Y 5");
        row("u is 2", plain().start('a', 0).start('c', 1).start('d', 2).step(128, 'b', 8, 'c').step(128, 'd', 0, 'X')
            .step(128, 'e', 0, 'Y'), "abde", "c 0 d 5 e 10");
        Metrics last = plain().start('a', 0).step(128, 'b', 31 * 4 + 3, 'c');
        row("up to the last place if there are not so many", last, "ab", "a 0 c 5 b 10");
        row("i grows by u", plain().start('a', 0).start('c', 1).start('b', 2).step(128, 'b', 11, 'c')
            .step(128, 'b', 0, 'X').step(128, 'd', 0, 'Y'), "abd", "a 0 c 5 Y 10");
        Metrics recipe = plain().step(128, 'b', 0, 'X');
        recipe.recipes.add(new int[] {0, 0, 0, 'a'});
        recipe.characters.set('a' - 33, new int[] {1, 16, 3, 0});
        row("no program for a character whose tag is not 1", recipe, "ab", "a 0 b 5");
    }

    private static void asking() {
        House h = new House();
        // Each of n letters a gets 15 letters behind it but the last one: 31 times of asking for two a.
        Metrics m = plain().start('a', 0);
        for (int i = 0; i < 15; i++) {
            m.step(i < 14 ? 0 : 128, i == 0 ? 'a' : 'A' + i - 1, 3, 'A' + i);
        }
        House.due("a chain of letters", h.give(0, m.bytes()), 0);
        House.due("32 times 31 and 8", h.run("\\font\\f=0 \\f\\hbox{" + "a".repeat(33) + "zzzzzzzz}"), 0);
        House.due("1001 times are TOO MANY", h.run("\\font\\f=0 \\f\\hbox{" + "a".repeat(33) + "zzzzzzzzz}"), 200001);
        House.due("also behind a paragraph", h.run("\\font\\f=0 \\f " + "a".repeat(33) + "zzzzzzzzz\n\n"), 200001);
        // With an edge behind, one time more.
        m.step(128, 'a', 0, 'b').program.set(15, new int[] {128, 'a', 0, 'b'});
        m.program.add(0, new int[] {255, 'Z', 0, 0});
        m.start('a', 1);
        House.due("with an edge", h.give(0, m.bytes()), 0);
        House.due("999 and the edge", h.run("\\font\\f=0 \\f\\hbox{" + "a".repeat(33) + "zzzzzzz}"), 0);
        House.due("1000 and the edge", h.run("\\font\\f=0 \\f\\hbox{" + "a".repeat(33) + "zzzzzzzz}"), 200001);
    }
}
