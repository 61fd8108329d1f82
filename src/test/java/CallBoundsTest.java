import java.util.Arrays;

/** The boundaries of the calls: what each refuses, that a call that throws changes nothing, and what runs leave. */
public final class CallBoundsTest {
    public static void main(String[] args) {
        tapeIsFull();
        fuelIsRefused();
        endIsRefused();
        nothingIsGiven();
        whatIsBehindIsGone();
        bytesOfNumbers();
        indexesAreRefused();
        throwingChangesNothing();
        latestRun();
        clearing();
        longSources();
        runsAreAlike();
        House.close();
    }

    private static final int NONE = 0;
    private static final int ARGUMENT = 1;
    private static final int INDEX = 2;
    private static final int UNSUPPORTED = 3;

    private interface Call {
        void make();
    }

    private static void throwing(String what, int due, Call call) {
        int got = NONE;
        try {
            call.make();
        } catch (IllegalArgumentException e) {
            got = e.getClass() == IllegalArgumentException.class ? ARGUMENT : -1;
        } catch (IndexOutOfBoundsException e) {
            got = e.getClass() == IndexOutOfBoundsException.class ? INDEX : -1;
        } catch (UnsupportedOperationException e) {
            got = e.getClass() == UnsupportedOperationException.class ? UNSUPPORTED : -1;
        }
        House.due(what, got, due);
    }

    private static void tapeIsFull() {
        TypeHouse h = new TypeHouse();
        for (int i = 0; i < 3276; i++) {
            h.feed(0x25252525, 0x25252525, 0x25252525, 0x25252525, i == 3275 ? 0x2525255c : 0x25252525);
        }
        for (int i = 0; i < 3; i++) {
            throwing("65540 bytes", UNSUPPORTED, () -> h.feed(1, 2, 3, 4, 5));
        }
        throwing("65521 bytes are not there", ARGUMENT, () -> h.end(18, 65521));
        House.due("65520 bytes are", h.end(18, 65520), 0);
        throwing("the tape is empty", ARGUMENT, () -> h.end(18, 1));
        throwing("and may be fed", NONE, () -> h.feed(1, 2, 3, 4, 5));
        throwing("20 bytes", ARGUMENT, () -> h.end(16, 21));
    }

    private static void fuelIsRefused() {
        House house = new House();
        house.house.fuel(2);
        for (int ticks : new int[] {-1, 200001, Integer.MIN_VALUE, Integer.MAX_VALUE}) {
            throwing("fuel " + ticks, ARGUMENT, () -> house.house.fuel(ticks));
            House.due("it is as before", house.run("\\relax\\relax\\relax"), 1000001);
            House.due("ticks", house.house.about(0), 3);
        }
        for (int ticks : new int[] {0, 1, 199999, 200000}) {
            throwing("fuel " + ticks, NONE, () -> house.house.fuel(ticks));
            House.due("a run", house.run("\\def\\a{\\relax\\a}\\a"), 1000001);
            House.due("ticks", house.house.about(0), ticks + 1);
            House.due("another run has as many", house.run("\\def\\a{\\relax\\a}\\a"), 1000001);
            House.due("ticks", house.house.about(0), ticks + 1);
        }
        House other = new House();
        House.due("100000 at first", other.run("\\def\\a{\\relax\\a}\\a"), 1000001);
        House.due("ticks", other.house.about(0), 100001);
    }

    private static void endIsRefused() {
        House house = new House();
        house.feedAll(House.bytes("\\count1=1 "));
        for (int what : new int[] {-1, 19, 20, 256, Integer.MIN_VALUE, Integer.MAX_VALUE}) {
            for (int n : new int[] {-1, 0, 10, 20, 21}) {
                throwing("end of " + what + ", " + n, ARGUMENT, () -> house.house.end(what, n));
            }
        }
        for (int what = 0; what <= 18; what++) {
            int w = what;
            for (int n : new int[] {-1, Integer.MIN_VALUE, 21, Integer.MAX_VALUE}) {
                throwing("end of " + what + ", " + n, ARGUMENT, () -> house.house.end(w, n));
            }
        }
        House.due("the tape is as it was", house.house.end(18, 20), 0);
        House.due("count 1", house.house.count(1), 1);
    }

    private static void nothingIsGiven() {
        House house = new House();
        for (int slot = 0; slot < 16; slot++) {
            House.due("a font file of no bytes", house.house.end(slot, 0), 1);
        }
        House.due("no patterns", house.house.end(16, 0), 0);
        House.due("no told words", house.house.end(17, 0), 0);
        House.due("there is no file yet", house.house.size(), 0);
        House.due("a source of no bytes", house.house.end(18, 0), 0);
        House.due("its file", house.house.size(), 56);
        for (int i = 0; i < 8; i++) {
            House.due("about " + i, house.house.about(i), 0);
        }
    }

    private static void whatIsBehindIsGone() {
        House house = new House();
        house.feedAll(House.bytes("\\count1=5 \\count1=6 "));
        House.due("the first ten bytes", house.house.end(18, 10), 0);
        House.due("count 1", house.house.count(1), 5);
        throwing("what is behind them is gone", ARGUMENT, () -> house.house.end(18, 1));
        house.feedAll(House.bytes("a1b c1d "));
        House.due("patterns of the first three bytes", house.house.end(16, 3), 1);
        throwing("what is behind them is gone", ARGUMENT, () -> house.house.end(16, 1));
        house.feedAll(House.bytes("a-b c-d "));
        House.due("nothing of what is there", house.house.end(17, 0), 0);
        throwing("what is behind them is gone", ARGUMENT, () -> house.house.end(17, 1));
        byte[] file = new Metrics().plain().bytes();
        house.feedAll(Arrays.copyOf(file, file.length + 100));
        House.due("a font file", house.house.end(4, file.length), 0);
        throwing("what is behind it is gone", ARGUMENT, () -> house.house.end(4, 1));
        house.feedAll(file);
        House.due("a fault empties the tape, too", house.house.end(4, 10), 1);
        throwing("what is behind it is gone", ARGUMENT, () -> house.house.end(4, 1));
    }

    private static void bytesOfNumbers() {
        // Each number gives four bytes, the highest one first.
        TypeHouse h = new TypeHouse();
        h.feed(0x5c636f75, 0x6e74313d, 0x60ff20ff, 0xffffffff, 0x80000000);
        House.due("\\count1=` and byte 255", h.end(18, 11), 0);
        House.due("count 1", h.count(1), 255);
        h.feed(0x61626364, 0x65666768, 0x696a6b6c, 0x6d6e6f70, 0x71727374);
        h.feed(0x2d757677, 0x78797a41, 0x20202020, 0x20202020, 0x20202021);
        House.due("a told word over two calls", h.end(17, 39), 1);
        h.feed(0x61626364, 0x65666768, 0x696a6b6c, 0x6d6e6f70, 0x71727374);
        h.feed(0x2d757677, 0x78797a41, 0x20202020, 0x20202020, 0x20202021);
        House.due("and one byte more", h.end(17, 40), -100039);
    }

    private static void indexesAreRefused() {
        House house = new House();
        throwing("no byte of no file", INDEX, () -> house.house.out(0));
        House.due("a run", house.run(""), 0);
        for (int i : new int[] {-1, 56, 57, Integer.MIN_VALUE, Integer.MAX_VALUE}) {
            throwing("out " + i, INDEX, () -> house.house.out(i));
        }
        House.due("the first byte", house.house.out(0), 247);
        House.due("the last byte", house.house.out(55), 223);
        for (int i : new int[] {-1, 8, 9, Integer.MIN_VALUE, Integer.MAX_VALUE}) {
            throwing("about " + i, INDEX, () -> house.house.about(i));
        }
        for (int i : new int[] {-1, 256, 257, Integer.MIN_VALUE, Integer.MAX_VALUE}) {
            throwing("count " + i, INDEX, () -> house.house.count(i));
        }
        TypeHouse fresh = new TypeHouse();
        for (int i = 0; i < 8; i++) {
            House.due("about before any run", fresh.about(i), 0);
        }
        for (int i = 0; i < 256; i++) {
            House.due("count before any run", fresh.count(i), 0);
        }
        House.due("size before any run", fresh.size(), 0);
    }

    /** All that can be seen of an object without changing it. */
    private static String seen(TypeHouse h) {
        StringBuilder text = new StringBuilder();
        for (int i = 0; i < h.size(); i++) {
            text.append(h.out(i)).append(' ');
        }
        for (int i = 0; i < 8; i++) {
            text.append(h.about(i)).append(' ');
        }
        for (int i = 0; i < 256; i++) {
            text.append(h.count(i)).append(' ');
        }
        return text.toString();
    }

    private static void throwingChangesNothing() {
        House h = House.ran("\\hsize20pt aa bb cc dd\\par\\count7=9 ", 0);
        String before = seen(h.house);
        h.feedAll(House.bytes("\\count7=8 "));
        throwing("end", ARGUMENT, () -> h.house.end(19, 0));
        throwing("end", ARGUMENT, () -> h.house.end(18, -1));
        throwing("end", ARGUMENT, () -> h.house.end(18, 21));
        throwing("end", ARGUMENT, () -> h.house.end(0, 21));
        throwing("end", ARGUMENT, () -> h.house.end(16, 21));
        throwing("fuel", ARGUMENT, () -> h.house.fuel(-1));
        throwing("out", INDEX, () -> h.house.out(-1));
        throwing("about", INDEX, () -> h.house.about(8));
        throwing("count", INDEX, () -> h.house.count(256));
        House.due("all is as before", seen(h.house), before);
        House.due("the tape, too", h.house.end(18, 10), 0);
        House.due("and it was run", h.house.count(7), 8);
    }

    private static void latestRun() {
        House h = House.ran("\\hsize20pt aa bb cc dd\\par\\count7=9 \\hbox to0pt{a}", 0);
        String before = seen(h.house);
        House.due("patterns", h.give(16, "a1b"), 1);
        House.due("told words", h.give(17, "a-b"), 1);
        House.due("a font file", h.give(1, new Metrics().plain().bytes()), 0);
        House.due("a faulty one", h.give(0, new byte[5]), 1);
        House.due("a faulty text", h.give(16, "1"), -100001);
        h.house.clear(true);
        h.house.clear(false);
        h.house.fuel(5);
        h.house.feed(1, 2, 3, 4, 5);
        House.due("what is told of the latest run stays", seen(h.house), before);
        House.due("the tape is emptied", h.house.end(16, 0), 0);
        House.due("a run with a fault is a run", h.run("\\count3=4 \\u"), 1100001);
        House.due("count 7", h.house.count(7), 0);
        House.due("count 3", h.house.count(3), 4);
        House.due("size", h.house.size(), 56);
        for (int i = 1; i < 8; i++) {
            House.due("about " + i, h.house.about(i), 0);
        }
        House.due("ticks", h.house.about(0), 2);
    }

    private static void clearing() {
        House h = new House();
        House.due("none", h.house.clear(true) + h.house.clear(false), 0);
        h.give(16, "a b c");
        h.give(17, "a b");
        House.due("told words go", h.house.clear(true), 2);
        House.due("and are no more", h.house.clear(true), 0);
        House.due("patterns go", h.house.clear(false), 3);
        House.due("and are no more", h.house.clear(false), 0);
        h.give(16, "a b c");
        House.due("a run leaves them", h.run("\\relax"), 0);
        House.due("patterns", h.house.clear(false), 3);
    }

    private static void longSources() {
        // A source as long as the tape.
        StringBuilder text = new StringBuilder("\\count1=0 ");
        while (text.length() < 65500) {
            text.append("\n");
        }
        text.append("\\count1=5 \\relax\n\n\n\n");
        House h = new House();
        House.due("65520 bytes", text.length(), 65520);
        House.due("a long source", h.give(18, text.toString()), 0);
        House.due("count 1", h.house.count(1), 5);
        House.due("so many lines", h.give(18, "\n".repeat(65517) + "\\u "), 1165518);
        House.due("a long line", h.give(18, "%" + "\u007f".repeat(65519)), 0);
        House.due("spaces", h.give(18, " ".repeat(65520)), 0);
        House.due("a long row of letters", h.give(18, "a".repeat(65520)), 1400001);
    }

    private static void runsAreAlike() {
        // A fault leaves nothing behind that a later run could see.
        String[] faulty = {"\\hbox{\\hbox{a{\\iftrue\\ifnum1<", "\\csname abc", "\\def\\a#1.{}\\a xyz{", "\\setbox1\\hbox to5pt",
            "\\edef\\a{\\expandafter\\a\\number", "a\\hsize1pt\\vsize1pt\\penalty-10000 \\hbox{b}\\u", "\\moveleft1pt", "{".repeat(101),
            "\\iftrue".repeat(101), "\\def\\a{\\a x}\\a", "\\font\\g=0 at1sp\\g\\font\\h=0 at2sp\\h ab\\u", "\\pretolerance10000 \\noindent"
            + "\\penalty0".repeat(125), "\\hsize1073741823sp\\noindent\\kern-1sp\\par", "\\hbox{a\\kern1000000001sp b}\\penalty-10000 "};
        String plain = "\\font\\f=0 \\f\\hsize30pt abc de fgh i-j kl\\-mn\\par\\def\\x{\\hbox{a}}\\x\\setbox3\\vbox{\\x\\x}\\box3 "
            + "\\font\\g=0 at5pt\\hbox to9pt{\\g xy}";
        House often = House.withFont();
        for (int i = 0; i < 60; i++) {
            House.due("a name that does not end", often.run("\\csname " + "a".repeat(40) + "\\relax"), 600001);
            House.due("macros", often.run("\\def\\a{" + "x".repeat(400) + "}"), 0);
        }
        for (int i = 0; i < 40; i++) {
            House.due("many macros", often.run("\\def\\a{}".repeat(300)), 0);
        }
        House.due("too many nodes", often.run("\\pretolerance10000 \\noindent" + "\\penalty0".repeat(125)), 200001);
        House.due("nodes", often.run("\\pretolerance10000 \\noindent" + "\\penalty0".repeat(50)), 0);
        House.due("nodes", often.house.about(7), 51 * 52 / 2);
        House.due("a name", often.run("\\def\\abc{\\count1=5 }\\csname abc\\endcsname"), 0);
        House.due("a name", often.house.count(1), 5);
        House first = House.withFont();
        House.due("a run", first.run(plain), 0);
        String due = seen(first.house);
        House h = House.withFont();
        for (String source : faulty) {
            House.due("a fault", h.run("\\font\\f=0 \\f " + source) != 0 ? 1 : 0, 1);
            House.due("another run", h.run(plain), 0);
            House.due("it is as on a new object", seen(h.house), due);
        }
    }
}
