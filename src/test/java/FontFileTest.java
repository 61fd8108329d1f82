/** Promise 4, what 0 .. 15: metric files, their faults, and how rows of their characters are set. */
public final class FontFileTest {
    private static void fault(String what, Metrics m, int due) {
        House.due(what, new House().give(0, m.bytes()), due);
    }

    private static Metrics plain() {
        return new Metrics().plain();
    }

    /** The plain file with one of its twelve numbers changed. */
    private static void number(String what, int i, int value, int due) {
        byte[] b = plain().bytes();
        b[2 * i] = (byte) (value >> 8);
        b[2 * i + 1] = (byte) value;
        House.due(what, new House().give(15, b), due);
    }

    public static void main(String[] args) {
        heads();
        parts();
        programs();
        slots();
        rows();
        sizes();
        House.close();
    }

    private static void heads() {
        House h = new House();
        House.due("no bytes", h.give(0, new byte[0]), 1);
        House.due("23 bytes", h.give(0, new byte[23]), 1);
        House.due("24 bytes of 0", h.give(0, new byte[24]), 3);
        House.due("8193 bytes come before all else", h.give(0, new byte[8193]), 4);
        number("a number above 32767", 11, 32768, 1);
        number("bc above ec + 1", 2, 128, 2);
        number("ec above 255", 3, 256, 2);
        number("lh below 2", 1, 1, 3);
        number("no widths", 4, 0, 3);
        number("no heights", 5, 0, 3);
        number("no depths", 6, 0, 3);
        number("no italics", 7, 0, 3);
        number("257 recipes", 10, 257, 3);
        number("256 recipes that are not there", 10, 256, 4);
        number("another lf", 0, 9, 4);
        number("another nk", 9, 1, 4);
        byte[] longer = java.util.Arrays.copyOf(plain().bytes(), plain().bytes().length + 4);
        House.due("a longer file", h.give(0, longer), 4);
        Metrics m = plain();
        m.design = (1 << 20) - 1;
        fault("a design size below a point", m, 5);
        m.design = -1;
        fault("a design size below 0", m, 5);
        m.design = 1 << 20;
        fault("a point", m, 0);
        Metrics none = plain();
        none.first = 200;
        none.last = 199;
        none.characters.clear();
        fault("no characters", none, 0);
    }

    private static void parts() {
        Metrics edge = plain();
        edge.characters.set(0, new int[] {3, 16, 0, 0});
        fault("the first character", edge, 6);
        edge.characters.set(0, new int[] {1, 16, 1, 0});
        fault("the first character's tag", edge, 7);
        edge.characters.set(0, new int[] {1, 16, 0, 0});
        edge.characters.set(93, new int[] {1, 16, 1, 0});
        fault("the last character's tag", edge, 7);
        int[][] places = {{3, 16, 0, 0}, {1, 32, 0, 0}, {1, 2, 0, 0}, {1, 16, 4, 0}};
        for (int[] place : places) {
            Metrics m = plain();
            m.characters.set(5, place);
            fault("a size at no place", m, 6);
            m.characters.set(5, new int[] {0, place[1], place[2], 0});
            fault("also if it is not there", m, place[0] == 3 ? 0 : 6);
        }
        Metrics m = plain();
        m.characters.set(5, new int[] {1, 16, 1, 0});
        fault("a program at no place", m, 7);
        m.characters.set(5, new int[] {0, 16, 1, 0});
        fault("no tag if it is not there", m, 0);
        m.characters.set(5, new int[] {1, 16, 3, 0});
        fault("a recipe at no place", m, 7);
        m.characters.set(5, new int[] {1, 16, 2, 200});
        fault("a next larger one that is not there", m, 7);
        m.characters.set(5, new int[] {1, 16, 2, 40});
        fault("a next larger one", m, 0);
        m.characters.set(7, new int[] {1, 16, 2, 41});
        m.characters.set(8, new int[] {1, 16, 2, 40});
        fault("steps that lead back", m, 7);
        m = plain();
        m.widths.set(1, 1 << 24);
        fault("a width that is no fraction", m, 8);
        m = plain();
        m.kerns.add(0xfe000000);
        fault("a kern that is no fraction", m, 8);
        m = plain();
        m.italics.set(0, 1);
        fault("a first italic that is not 0", m, 8);
        m = plain();
        m.recipes.add(new int[] {0, 0, 0, 200});
        fault("a recipe without its repeated character", m, 10);
        m.recipes.set(0, new int[] {0, 200, 0, 'a'});
        fault("a recipe with a part that is not there", m, 10);
        m.recipes.set(0, new int[] {0, 'b', 0, 'a'});
        m.characters.set(5, new int[] {1, 16, 3, 0});
        fault("a recipe", m, 0);
        m = plain();
        m.parameters.set(0, 0x12345678);
        fault("a first parameter may be anything", m, 0);
        m.parameters.set(5, 0x12345678);
        fault("another one may not", m, 11);
    }

    private static void programs() {
        fault("a jump to no place", plain().step(129, 0, 0, 1), 9);
        fault("a jump", plain().step(129, 0, 0, 0), 0);
        fault("next is not there", plain().step(128, 200, 0, 'a'), 9);
        fault("next is the edge", plain().step(255, 200, 0, 0).step(128, 200, 0, 'a'), 0);
        fault("a ligature with none", plain().step(128, 'a', 0, 200), 9);
        fault("a kern at no place", plain().step(128, 'a', 128, 0), 9);
        Metrics m = plain().step(128, 'a', 128, 0);
        m.kerns.add(0);
        fault("a kern", m, 0);
        fault("no word behind it", plain().step(0, 'a', 0, 'b'), 9);
        fault("no word so far behind it", plain().step(1, 'a', 0, 'b').step(128, 'a', 0, 'b'), 9);
        fault("a word behind it", plain().step(0, 'a', 0, 'b').step(128, 'b', 0, 'b'), 0);
    }

    private static void slots() {
        House h = House.withFont();
        House.due("a faulty file", h.give(0, new byte[30]), 3);
        House.due("the slot stays as it was", h.run("\\font\\f=0 \\f\\hbox{a}"), 0);
        House.due("it has its page", h.pages().get(0), "a 0 10");
    }

    private static void row(String what, Metrics m, String source, String due) {
        House h = new House();
        House.due(what, h.give(0, m.bytes()), 0);
        House.due(what, h.run("\\font\\f=0 \\f\\hbox{" + source + "}"), 0);
        House.due(what, h.pages().get(0), due);
    }

    private static void rows() {
        Metrics m = plain().start('f', 0).step(0, 'i', 0, 'F').step(128, 'V', 128, 0);
        m.kerns.add(0xff000000 | -Metrics.HALF / 5 & 0xffffff);
        row("a ligature and a kern", m, "fifV", "F 0 10 f 5 10 V 9 10");
        row("a word ends at anything else", m, "f\\relax i", "f 0 10 i 5 10");
        row("ligatures through char", m, "\\char102\\char105 ", "F 0 10");
        row("both stay", plain().start('a', 0).step(128, 'b', 11, 'c'), "abd", "a 0 10 c 5 10 b 10 10 d 15 10");
        row("x stays", plain().start('a', 0).step(0, 'b', 2, 'c').step(128, 'c', 0, 'd'), "ab", "d 0 10");
        row("r stays", plain().start('a', 0).step(128, 'b', 1, 'c'), "ab", "c 0 10 b 5 10");
        row("z goes on", plain().start('a', 0).start('c', 1).step(128, 'b', 0, 'c').step(128, 'd', 0, 'e'), "abd",
            "e 0 10");
        row("z is passed", plain().start('a', 0).start('c', 1).step(128, 'b', 5, 'c').step(128, 'b', 0, 'e'), "ab",
            "c 0 10 b 5 10");
        row("a program elsewhere", plain().start('a', 0).step(200, 0, 0, 1).step(128, 'b', 0, 'c'), "ab", "c 0 10");
        row("a skip", plain().start('a', 0).step(1, 'x', 0, 'y').step(0, 'b', 0, 'z').step(128, 'b', 0, 'c'), "ab",
            "c 0 10");
        for (int op = 1; op <= 2; op++) {
            Metrics edges = plain().step(255, 'Z', 0, 0).start('a', 1).step(128, 'Z', 0, 'E').step(128, 'a', op, 'B')
                .step(255, 0, 0, 2);
            row("edges before and behind", edges, "aba", op == 1 ? "B 0 10 a 5 10 b 10 10 E 15 10"
                : "B 0 10 b 5 10 E 10 10");
        }
        House h = new House();
        House.due("a ligature without end", h.give(0, plain().start('a', 0).step(128, 'a', 3, 'a').bytes()), 0);
        House.due("is too many", h.run("\\font\\f=0 \\f\\hbox{aa}"), 200001);
        // Twelve letters come between two a: 25 times of asking.
        Metrics chain = plain().start('a', 0);
        for (int i = 0; i < 12; i++) {
            chain.step(i < 11 ? 0 : 128, i == 0 ? 'a' : 'A' + i - 1, 3, 'A' + i);
        }
        House.due("letters between", h.give(1, chain.bytes()), 0);
        House.due("1000 times", h.run("\\font\\f=1 \\f\\hbox{" + "a".repeat(41) + "}"), 0);
        House.due("items", h.house.about(3), 41 + 12 * 40);
        House.due("1001 times", h.run("\\font\\f=1 \\f\\hbox{" + "a".repeat(41) + "z}"), 200001);
        House.due("one character is none", h.run("\\font\\f=0 \\f\\hbox{a}"), 0);
    }

    private static void sizes() {
        House h = House.withFont();
        int[][] sizes = {{655360, 327680}, {8388607, 4194303}, {8388608, 4194304}, {134217727, 67108856}};
        for (int[] size : sizes) {
            House.due("a width", h.run("\\font\\f=0 at " + size[0] + "sp \\f\\setbox1\\hbox{a}\\count1=\\wd1 "), 0);
            House.due("a width at " + size[0], h.house.count(1), size[1]);
        }
        Metrics m = plain();
        m.widths.set(1, 0xfff80000);
        h.give(1, m.bytes());
        House.due("a width below 0", h.run("\\font\\f=1 \\f\\setbox1\\hbox{a}\\count1=\\wd1 "), 0);
        House.due("is less 5pt", h.house.count(1), -327680);
        m.design = Integer.MAX_VALUE;
        h.give(1, m.bytes());
        House.due("the greatest design size", h.run("\\font\\f=1 \\f\\dimen1=1em\\count1=\\dimen1 "), 0);
        House.due("it is a size 16 times less", h.house.count(1), 134217712);
    }
}
