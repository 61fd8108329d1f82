import java.io.ByteArrayOutputStream;
import java.nio.charset.StandardCharsets;
import java.util.ArrayList;
import java.util.List;

/** What the tests share: a house that takes whole texts, checks, and a reader of the files that it gives out. */
final class House {
    private static int wrong = 0;
    private static int checks = 0;

    final TypeHouse house = new TypeHouse();

    /** A house with the plain font in slot 0. */
    static House withFont() {
        House h = new House();
        due("the plain font", h.give(0, new Metrics().plain().bytes()), 0);
        return h;
    }

    static byte[] bytes(String text) {
        return text.getBytes(StandardCharsets.ISO_8859_1);
    }

    void feedAll(byte[] b) {
        for (int i = 0; i < b.length; i += 20) {
            int[] words = new int[5];
            for (int k = 0; k < 20; k++) {
                int v = i + k < b.length ? b[i + k] & 255 : 0;
                words[k / 4] |= v << 24 - 8 * (k % 4);
            }
            house.feed(words[0], words[1], words[2], words[3], words[4]);
        }
    }

    int give(int what, byte[] b) {
        feedAll(b);
        return house.end(what, b.length);
    }

    int give(int what, String text) {
        return give(what, bytes(text));
    }

    int run(String source) {
        return give(18, source);
    }

    /** Runs a source on a new house with the plain font, which is \f and the font at hand. */
    static House ran(String source, int answer) {
        House h = withFont();
        due(source, h.run("\\font\\f=0 \\f " + source), answer);
        return h;
    }

    /** The answer of a run on a new house with the plain font. */
    static void dueRun(String source, int answer) {
        ran(source, answer);
    }

    /** Counter 1 behind a run without fault. */
    static void dueCount(String source, int value) {
        due(source + " (count 1)", ran(source, 0).house.count(1), value);
    }

    byte[] file() {
        byte[] b = new byte[house.size()];
        for (int i = 0; i < b.length; i++) {
            b[i] = (byte) house.out(i);
        }
        return b;
    }

    List<String> pages() {
        return new Printed(file()).pages;
    }

    private static String brief(String what) {
        int n = what.length();
        return n <= 300 ? what : what.substring(0, 150) + " .. " + what.substring(n - 140);
    }

    static void due(String what, long got, long want) {
        checks++;
        if (got != want) {
            wrong++;
            System.out.println(brief(what) + ": " + got + ", due is " + want);
        }
    }

    static void due(String what, String got, String want) {
        checks++;
        if (!got.equals(want)) {
            wrong++;
            System.out.println(brief(what) + ": " + got + "\n    due is " + want);
        }
    }

    /** The pages that a source makes, each as its marks: character x y, or rule x y width height, in points. */
    static void duePages(String source, String... pages) {
        due(source, String.join(" / ", ran(source, 0).pages()), String.join(" / ", pages));
    }

    /** The x of all marks of a source, in sizes. */
    static void dueX(String source, int... due) {
        List<int[]> places = new Printed(ran(source, 0).file()).places;
        due(source + " (marks)", places.size(), due.length);
        for (int i = 0; i < due.length && i < places.size(); i++) {
            due(source + " (x of mark " + i + ")", places.get(i)[0], due[i]);
        }
    }

    /** The y of all marks of a source, in sizes. */
    static void dueY(String source, int... due) {
        List<int[]> places = new Printed(ran(source, 0).file()).places;
        due(source + " (marks)", places.size(), due.length);
        for (int i = 0; i < due.length && i < places.size(); i++) {
            due(source + " (y of mark " + i + ")", places.get(i)[1], due[i]);
        }
    }

    /** What a run of a source tells. */
    static void dueAbout(String source, int what, int due) {
        due(source + " (about " + what + ")", ran(source, 0).house.about(what), due);
    }

    /** A run with much fuel on a new house with the plain font. */
    static House much(String source, int answer) {
        House h = withFont();
        h.house.fuel(200000);
        due(source, h.run("\\font\\f=0 \\f " + source), answer);
        return h;
    }

    /** A source that does something so often; counter 200 counts. */
    static String loop(int n, String body) {
        return "\\count200=0 \\def\\l{\\ifnum\\count200<" + n + " \\advance\\count200 by 1 " + body
            + "\\expandafter\\l\\fi}\\l ";
    }

    static void close() {
        System.out.println(checks + " checks, " + wrong + " wrong");
        if (wrong != 0) {
            System.exit(1);
        }
    }
}

/** Makes metric files. */
final class Metrics {
    int check = 0x01020304;
    int design = 10 << 20;
    int first = 33;
    int last = 126;
    final List<int[]> characters = new ArrayList<>();
    final List<Integer> widths = new ArrayList<>();
    final List<Integer> heights = new ArrayList<>();
    final List<Integer> depths = new ArrayList<>();
    final List<Integer> italics = new ArrayList<>();
    final List<int[]> program = new ArrayList<>();
    final List<Integer> kerns = new ArrayList<>();
    final List<int[]> recipes = new ArrayList<>();
    final List<Integer> parameters = new ArrayList<>();

    static final int HALF = 1 << 19;

    /** All characters are 5pt wide at 10pt, 5pt high and not deep; g is 2.5pt deep. A space is 2.5pt plus 1.25pt minus .625pt. */
    Metrics plain() {
        widths.addAll(List.of(0, HALF, HALF / 2));
        heights.addAll(List.of(0, HALF));
        depths.addAll(List.of(0, HALF / 2));
        italics.add(0);
        for (int c = first; c <= last; c++) {
            characters.add(new int[] {1, c == 'g' ? 17 : 16, 0, 0});
        }
        parameters.addAll(List.of(0, HALF / 2, HALF / 4, HALF / 8, HALF, 2 * HALF));
        return this;
    }

    Metrics start(char c, int place) {
        characters.get(c - first)[2] = 1;
        characters.get(c - first)[3] = place;
        return this;
    }

    Metrics step(int skip, int next, int op, int rest) {
        program.add(new int[] {skip, next, op, rest});
        return this;
    }

    int words() {
        return 6 + 2 + characters.size() + widths.size() + heights.size() + depths.size() + italics.size()
            + program.size() + kerns.size() + recipes.size() + parameters.size();
    }

    int[] numbers() {
        return new int[] {words(), 2, first, last, widths.size(), heights.size(), depths.size(), italics.size(),
            program.size(), kerns.size(), recipes.size(), parameters.size()};
    }

    byte[] bytes() {
        ByteArrayOutputStream out = new ByteArrayOutputStream();
        for (int n : numbers()) {
            out.write(n >> 8);
            out.write(n);
        }
        word(out, check);
        word(out, design);
        characters.forEach(w -> row(out, w));
        widths.forEach(w -> word(out, w));
        heights.forEach(w -> word(out, w));
        depths.forEach(w -> word(out, w));
        italics.forEach(w -> word(out, w));
        program.forEach(w -> row(out, w));
        kerns.forEach(w -> word(out, w));
        recipes.forEach(w -> row(out, w));
        parameters.forEach(w -> word(out, w));
        return out.toByteArray();
    }

    private static void word(ByteArrayOutputStream out, int w) {
        row(out, new int[] {w >> 24, w >> 16, w >> 8, w});
    }

    private static void row(ByteArrayOutputStream out, int[] w) {
        for (int b : w) {
            out.write(b);
        }
    }
}

/** Reads a file as a printer does, and checks its form on the way. */
final class Printed {
    final List<String> pages = new ArrayList<>();
    final List<String> codes = new ArrayList<>();
    /** Of each mark x and y, in sizes. */
    final List<int[]> places = new ArrayList<>();
    private final byte[] b;
    private int at = 0;

    Printed(byte[] b) {
        this.b = b;
        expect(247, 2);
        at += 13;
        int former = -1;
        while ((b[at] & 255) == 139) {
            int begun = at;
            at += 41;
            House.due("where the former page began", number(4), former);
            former = begun;
            pages.add(page());
        }
        int post = at;
        expect(248);
        House.due("where the last page begins", number(4), former);
        at += 12 + 8 + 2;
        House.due("pages told", number(2), pages.size());
        while ((b[at] & 255) == 243) {
            at++;
            font();
        }
        expect(249);
        House.due("where 248 is", number(4), post);
        expect(2, 223, 223, 223, 223);
        while (at < b.length) {
            expect(223);
        }
        House.due("bytes that four divides", b.length % 4, 0);
    }

    private void expect(int... codesDue) {
        for (int c : codesDue) {
            House.due("byte " + at, b[at] & 255, c);
            at++;
        }
    }

    private int number(int n) {
        int v = b[at];
        at++;
        for (int i = 1; i < n; i++) {
            v = v << 8 | b[at] & 255;
            at++;
        }
        return v;
    }

    private void font() {
        at += 14;
        int n = b[at] & 255;
        at += 1 + n;
    }

    private static String points(int v) {
        double d = v / 65536.0;
        return d == Math.rint(d) ? String.valueOf((long) d) : String.valueOf(Math.round(d * 10000) / 10000.0);
    }

    private String page() {
        StringBuilder text = new StringBuilder();
        int h = 0;
        int v = 0;
        int[] r = new int[4];
        expect(141);
        for (int op = b[at] & 255; op != 142; op = b[at] & 255) {
            at++;
            codes.add(String.valueOf(op));
            if (op < 128 || op == 137) {
                places.add(new int[] {h, v});
            }
            if (op < 128) {
                text.append((char) op).append(' ').append(points(h)).append(' ').append(points(v)).append(' ');
                h += 327680;
            } else if (op == 137) {
                int high = number(4);
                int wide = number(4);
                text.append("rule ").append(points(h)).append(' ').append(points(v)).append(' ').append(points(wide))
                    .append(' ').append(points(high)).append(' ');
            } else if (op >= 143 && op <= 170) {
                int k = op < 157 ? op - 143 : op - 157;
                int base = op < 157 ? 0 : 2;
                int d = k < 4 ? number(k + 1) : k == 4 ? r[base] : k < 9 ? number(k - 4) : k == 9 ? r[base + 1]
                    : number(k - 9);
                if (k >= 4) {
                    r[base + (k < 9 ? 0 : 1)] = d;
                }
                h += op < 157 ? d : 0;
                v += op < 157 ? 0 : d;
            } else if (op == 243) {
                font();
            } else {
                House.due("a font's number", op >= 171 && op <= 234 ? 1 : 0, 1);
            }
        }
        expect(142, 140);
        return text.toString().trim();
    }
}
