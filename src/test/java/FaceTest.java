/** Promises 1, 2, 3, 5, 6, 7, 8 and 9: the calls round the runs. */
public final class FaceTest {
    public static void main(String[] args) {
        newObject();
        feed();
        fuel();
        endsThatThrow();
        clear();
        sizeAndOut();
        about();
        count();
        House.close();
    }

    private static boolean throwsIndex(TypeHouse h, int call, int with) {
        try {
            int ignored = call == 0 ? h.out(with) : call == 1 ? h.about(with) : h.count(with);
            return false;
        } catch (IndexOutOfBoundsException e) {
            return true;
        }
    }

    private static boolean endThrows(TypeHouse h, int what, int n) {
        try {
            h.end(what, n);
            return false;
        } catch (IllegalArgumentException e) {
            return true;
        }
    }

    private static void yes(String what, boolean holds) {
        House.due(what, holds ? 1 : 0, 1);
    }

    private static void newObject() {
        TypeHouse h = new TypeHouse();
        House.due("size of a new object", h.size(), 0);
        for (int i = 0; i < 8; i++) {
            House.due("about before a run", h.about(i), 0);
        }
        House.due("count before a run", h.count(0), 0);
        House.due("count before a run", h.count(255), 0);
        House.due("patterns of a new object", h.clear(false), 0);
        House.due("told words of a new object", h.clear(true), 0);
        yes("the tape is empty", endThrows(h, 18, 1));
        House house = new House();
        for (int slot = 0; slot < 16; slot++) {
            House.due("no font in slot " + slot, house.run("\\font\\f=" + slot + " "), 1400001);
        }
        House.due("fuel of a new object", house.run("\\def\\a{\\relax\\a}\\a"), 1000001);
        House.due("ticks with that fuel", house.house.about(0), 100001);
    }

    private static void feed() {
        TypeHouse h = new TypeHouse();
        h.feed(0x5c636f75, 0x6e74313d, 0x34322041, 0, 0);
        House.due("\\count1=42 from numbers", h.end(18, 11), 0);
        House.due("count 1", h.count(1), 42);
        for (int i = 0; i < 3276; i++) {
            h.feed(-1, 0, 0, 0, 0);
        }
        boolean thrown = false;
        try {
            h.feed(0, 0, 0, 0, 0);
        } catch (UnsupportedOperationException e) {
            thrown = true;
        }
        yes("feed beyond 65536 bytes throws", thrown);
        yes("65521 bytes are not there", endThrows(h, 18, 65521));
        House.due("65520 bytes are", h.end(3, 65520), 4);
        yes("what was behind is gone", endThrows(h, 18, 1));
    }

    private static void fuel() {
        TypeHouse h = new TypeHouse();
        for (int bad : new int[] {-1, 200001, Integer.MIN_VALUE, Integer.MAX_VALUE}) {
            boolean thrown = false;
            try {
                h.fuel(bad);
            } catch (IllegalArgumentException e) {
                thrown = true;
            }
            yes("fuel " + bad + " throws", thrown);
        }
        House house = new House();
        house.house.fuel(0);
        House.due("an empty source needs none", house.run(""), 0);
        House.due("fuel 0", house.run("\\relax"), 1000001);
        House.due("ticks", house.house.about(0), 1);
        house.house.fuel(3);
        House.due("three ticks", house.run("\\relax\\relax\\relax%"), 0);
        House.due("the fourth one, a space behind the second name", house.run("\\relax\\relax{}"), 1000001);
        House.due("a macro is two", house.run("\\def\\a{\\relax}\\a"), 0);
        House.due("and one more", house.run("\\def\\a{\\relax}\\a\\relax"), 1000001);
        house.house.fuel(200000);
        House.due("much fuel", house.run("\\def\\a{\\relax\\a}\\a"), 1000001);
        House.due("all of it", house.house.about(0), 200001);
    }

    private static void endsThatThrow() {
        House house = new House();
        House.due("a run before", house.run("\\count1=7 "), 0);
        house.feedAll(House.bytes("\\count1=8 "));
        for (int what : new int[] {-1, 19, Integer.MAX_VALUE, Integer.MIN_VALUE}) {
            yes("what " + what, endThrows(house.house, what, 0));
        }
        yes("n below 0", endThrows(house.house, 18, -1));
        yes("n above the tape", endThrows(house.house, 18, 21));
        House.due("a call that throws changes nothing", house.house.count(1), 7);
        House.due("the tape is there still", house.house.end(18, 10), 0);
        House.due("and was run", house.house.count(1), 8);
        yes("the tape is empty", endThrows(house.house, 18, 1));
    }

    private static void clear() {
        House house = new House();
        House.due("three patterns", house.give(16, "a1b b1c 1d"), 3);
        House.due("two told words", house.give(17, "ab-cd x-y"), 2);
        House.due("one takes the place of the former", house.give(17, "a-bcd"), 1);
        House.due("patterns that went", house.house.clear(false), 3);
        House.due("no patterns are left", house.house.clear(false), 0);
        House.due("told words that went", house.house.clear(true), 2);
        House.due("no told words are left", house.house.clear(true), 0);
        House.due("they may come again", house.give(16, "a1b"), 1);
    }

    private static void sizeAndOut() {
        House house = House.withFont();
        House.due("an empty run", house.run(""), 0);
        House.due("a file without pages", house.house.size(), 56);
        int[] due = {247, 2, 1, 131, 146, 192, 28, 59, 0, 0, 0, 0, 3, 232, 0, 248, 255, 255, 255, 255, 1, 131, 146,
            192, 28, 59, 0, 0, 0, 0, 3, 232, 0, 0, 0, 0, 0, 0, 0, 0, 0, 0, 0, 0, 249, 0, 0, 0, 15, 2, 223, 223, 223,
            223, 223, 223};
        for (int i = 0; i < due.length; i++) {
            House.due("byte " + i + " of it", house.house.out(i), due[i]);
        }
        for (int i : new int[] {-1, 56, Integer.MAX_VALUE, Integer.MIN_VALUE}) {
            yes("no byte " + i, throwsIndex(house.house, 0, i));
        }
        yes("no byte before a run", throwsIndex(new TypeHouse(), 0, 0));
        House.due("a font changes nothing", house.give(1, new Metrics().plain().bytes()), 0);
        House.due("the file is that of the latest run", house.house.size(), 56);
    }

    private static void about() {
        House house = House.ran("\\hsize=30pt aa aa aa aa\\par\\hbox to 1pt{a}\\penalty-10000 \\hbox{b}", 0);
        int[] due = {23, 2, 5, 18, 2, 2, 0, 2};
        for (int i = 0; i < due.length; i++) {
            House.due("about " + i, house.house.about(i), due[i]);
        }
        yes("no about -1", throwsIndex(house.house, 1, -1));
        yes("no about 8", throwsIndex(house.house, 1, 8));
        House.due("another run", house.run(""), 0);
        for (int i = 0; i < 8; i++) {
            House.due("about " + i + " of an empty run", house.house.about(i), 0);
        }
    }

    private static void count() {
        House house = new House();
        House.due("groups", house.run("\\count1=1 {\\count1=2 \\count2=3 \\global\\count3=4 {\\global\\count1=9 "
            + "\\count1=8 \\undefined"), 1100001);
        House.due("what was set globally stays", house.house.count(1), 9);
        House.due("what was set within is gone", house.house.count(2), 0);
        House.due("global", house.house.count(3), 4);
        yes("no count -1", throwsIndex(house.house, 2, -1));
        yes("no count 256", throwsIndex(house.house, 2, 256));
        House.due("a new run", house.run("\\count255=-2147483647 "), 0);
        House.due("begins as at first", house.house.count(1), 0);
        House.due("the last counter", house.house.count(255), -2147483647);
    }
}
