import java.util.ArrayList;
import java.util.List;
import java.util.Random;

/** Paragraphs of any kind, broken by the program and, word by word as the document says it, by a plain model. */
public final class BreakModelTest {
    private static final int BOX = 0;
    private static final int GLUE = 1;
    private static final int KERN = 2;
    private static final int PENALTY = 3;
    private static final int HYPHEN = 4;
    private static final long DASH = 327680;
    private static final long POINT = 65536;

    private final List<long[]> items = new ArrayList<>();
    private final List<long[]> nodes = new ArrayList<>();
    private long hsize;
    private long[] left;
    private long[] right;
    private long[] fill;
    private int pretolerance;
    private int tolerance;
    private int linePenalty;
    private int hyphenPenalty;
    private int doubleDemerits;
    private int finalDemerits;
    private int adjacentDemerits;
    private long moreStretch;
    private int looseness;
    private int last;

    public static void main(String[] args) {
        Random random = new Random(20261116);
        for (int i = 0; i < 3000; i++) {
            new BreakModelTest().compare(random);
        }
        House.close();
    }

    private static int one(Random random, int... of) {
        return of[random.nextInt(of.length)];
    }

    /** Width, stretch, order, shrink. */
    private static long[] glue(Random random) {
        int order = one(random, 0, 0, 0, 0, 1, 2, 3);
        long stretch = one(random, 0, 1, 1, 2, 3, 5) * POINT;
        return new long[] {one(random, 0, 1, 2, 3, -1) * POINT, stretch, stretch == 0 ? 0 : order,
            one(random, 0, 0, 1, 1, 2, 3) * POINT};
    }

    private static String written(long[] glue) {
        String[] units = {"sp", "fil", "fill", "filll"};
        int order = (int) glue[2];
        return glue[0] + "sp plus" + (order == 0 ? glue[1] : glue[1] / POINT) + units[order] + " minus" + glue[3] + "sp\\relax ";
    }

    private String make(Random random) {
        StringBuilder source = new StringBuilder();
        int n = 1 + random.nextInt(14);
        boolean plain = random.nextBoolean();
        for (int i = 0; i < n; i++) {
            int kind = plain ? i % 2 : one(random, BOX, BOX, BOX, GLUE, GLUE, KERN, PENALTY, HYPHEN);
            long[] item = {kind, 0, 0, 0, 0};
            if (kind == BOX) {
                item[1] = one(random, 1, 2, 3, 5, 8) * POINT;
                source.append("\\vrule height1pt width").append(item[1]).append("sp\\relax ");
            } else if (kind == GLUE) {
                long[] glue = glue(random);
                System.arraycopy(glue, 0, item, 1, 4);
                source.append("\\hskip").append(written(glue));
            } else if (kind == KERN) {
                item[1] = one(random, 0, 1, 2, -1) * POINT;
                source.append("\\kern").append(item[1]).append("sp\\relax ");
            } else if (kind == PENALTY) {
                item[1] = one(random, 0, 0, 10, 50, -10, -50, 100, 10000, -10000, 9999, -9999);
                source.append("\\penalty").append(item[1]).append("\\relax ");
            } else {
                source.append("\\-");
            }
            items.add(item);
        }
        return source.toString();
    }

    private String settings(Random random) {
        long[] none = {0, 0, 0, 0};
        hsize = one(random, 0, 2, 5, 8, 10, 13, 20, -3) * POINT + one(random, 0, 0, 0, 1, -1, 32768);
        left = random.nextInt(3) == 0 ? glue(random) : none;
        right = random.nextInt(3) == 0 ? glue(random) : none;
        fill = random.nextInt(3) == 0 ? glue(random) : new long[] {0, POINT, 1, 0};
        pretolerance = one(random, -1, 0, 12, 50, 99, 100, 200, 10000);
        tolerance = one(random, 0, 12, 13, 99, 100, 200, 1000, 10000);
        linePenalty = one(random, 0, 0, 10, -10, 9990, 10000, -10000);
        hyphenPenalty = one(random, 0, 0, 50, -50, 10000, -10000, 9999);
        doubleDemerits = one(random, 0, 0, 100, 10000, -10000);
        finalDemerits = one(random, 0, 0, 100, 5000, -5000);
        adjacentDemerits = one(random, 0, 100, 10000, -10000);
        moreStretch = one(random, 0, 0, 0, 1, 3) * POINT;
        looseness = one(random, 0, 0, 0, 0, 1, -1, 2, -2);
        return "\\vsize16000pt\\clubpenalty0 \\widowpenalty0 \\brokenpenalty0 \\hsize" + hsize + "sp\\leftskip" + written(left)
            + "\\rightskip" + written(right) + "\\parfillskip" + written(fill) + "\\pretolerance" + pretolerance + " \\tolerance" + tolerance
            + " \\linepenalty" + linePenalty + " \\hyphenpenalty" + hyphenPenalty + " \\doublehyphendemerits" + doubleDemerits
            + " \\finalhyphendemerits" + finalDemerits + " \\adjdemerits" + adjacentDemerits + " \\emergencystretch" + moreStretch
            + "sp\\looseness" + looseness + " \\noindent ";
    }

    private void compare(Random random) {
        String source = settings(random) + make(random) + "\\par";
        House h = House.ran(source, 0);
        int chosen = choose();
        List<Integer> breaks = new ArrayList<>();
        for (int node = chosen; node > 0; node = (int) nodes.get(node)[4]) {
            breaks.add(0, (int) nodes.get(node)[0]);
        }
        House.due(source + " (lines)", h.house.about(4), breaks.size());
        House.due(source + " (nodes)", h.house.about(7), nodes.size() - 1);
        StringBuilder due = new StringBuilder();
        int hyphens = 0;
        int overfull = 0;
        int from = -1;
        for (int line = 0; line < breaks.size(); line++) {
            int to = breaks.get(line);
            for (int i = first(from); i < to; i++) {
                due.append(kind(i) == BOX ? line + " " : "");
            }
            if (kind(to) == HYPHEN) {
                due.append(line).append(' ');
                hyphens++;
            }
            long[] sums = sums(from, to, 0);
            overfull += hsize < sums[0] && sums[5] < sums[0] - hsize ? 1 : 0;
            from = to;
        }
        House.due(source + " (hyphens)", h.house.about(6), hyphens);
        House.due(source + " (overfull)", h.house.about(5), overfull);
        StringBuilder got = new StringBuilder();
        for (int[] place : new Printed(h.file()).places) {
            got.append((place[1] - 655360) / 786432).append(' ');
        }
        House.due(source + " (marks by lines)", got.toString(), due.toString());
    }

    private int kind(int i) {
        return (int) items.get(i)[0];
    }

    /** The chosen node of the pass that was the last one. */
    private int choose() {
        if (kind(items.size() - 1) == GLUE) {
            items.remove(items.size() - 1);
        }
        items.add(new long[] {PENALTY, 10000, 0, 0, 0});
        items.add(new long[] {GLUE, fill[0], fill[1], fill[2], fill[3]});
        items.add(new long[] {PENALTY, -10000, 0, 0, 0});
        last = items.size() - 1;
        int chosen = -1;
        if (pretolerance >= 0) {
            chosen = pass(pretolerance, true, 0, false);
        }
        if (chosen < 0) {
            chosen = pass(tolerance, false, 0, moreStretch == 0);
        }
        if (chosen < 0) {
            chosen = pass(tolerance, false, moreStretch, true);
        }
        return chosen;
    }

    private long penalty(int i) {
        return kind(i) == PENALTY ? items.get(i)[1] : kind(i) == HYPHEN ? hyphenPenalty : 0;
    }

    private boolean isPlace(int i, boolean firstPass) {
        boolean is;
        switch (kind(i)) {
            case GLUE:
                is = i > 0 && (kind(i - 1) == BOX || kind(i - 1) == HYPHEN);
                break;
            case KERN:
                is = kind(i + 1) == GLUE;
                break;
            case PENALTY:
                is = true;
                break;
            case HYPHEN:
                is = !firstPass;
                break;
            default:
                is = false;
                break;
        }
        return is && penalty(i) < 10000;
    }

    private int first(int a) {
        if (a < 0) {
            return 0;
        }
        int i = kind(a) == HYPHEN ? a + 1 : a;
        while (i <= last && (kind(i) == GLUE || kind(i) == KERN || kind(i) == PENALTY)) {
            i++;
        }
        return i;
    }

    /** Width, stretch of four orders, shrink of the line from a to e. */
    private long[] sums(int a, int e, long more) {
        long[] s = {left[0] + right[0], more, 0, 0, 0, left[3] + right[3]};
        s[1 + (int) left[2]] += left[1];
        s[1 + (int) right[2]] += right[1];
        for (int i = first(a); i < e; i++) {
            long[] item = items.get(i);
            if (item[0] == BOX || item[0] == KERN || item[0] == GLUE) {
                s[0] += item[1];
            }
            if (item[0] == GLUE) {
                s[1 + (int) item[3]] += item[2];
                s[5] += item[4];
            }
        }
        s[0] += kind(e) == HYPHEN ? DASH : 0;
        return s;
    }

    private static int bad(long t, long s) {
        if (t == 0) {
            return 0;
        }
        if (s == 0) {
            return 10000;
        }
        long r = t <= 7230584 ? 297 * t / s : s >= 1663497 ? t / (s / 297) : t;
        return r > 1290 ? 10000 : (int) ((r * r * r + 131072) / 262144);
    }

    /** Badness and fit. */
    private int[] judge(int a, int e, long more) {
        long[] s = sums(a, e, more);
        long shortfall = hsize - s[0];
        if (shortfall > 0) {
            if (s[2] != 0 || s[3] != 0 || s[4] != 0) {
                return new int[] {0, 2};
            }
            int b = bad(shortfall, s[1]);
            return new int[] {b, b > 99 ? 0 : b > 12 ? 1 : 2};
        }
        if (s[5] < -shortfall) {
            return new int[] {10001, 3};
        }
        int b = bad(-shortfall, s[5]);
        return new int[] {b, b > 12 ? 3 : 2};
    }

    private boolean isAlive(long[] node, int e, boolean firstPass, long more) {
        for (int p = (int) node[0] + 1; p < e; p++) {
            if (isPlace(p, firstPass) && (penalty(p) == -10000 || judge((int) node[0], p, more)[0] == 10001)) {
                return false;
            }
        }
        return true;
    }

    private long demerits(long[] node, int e, int[] line) {
        long sum = linePenalty + line[0];
        long d = sum >= 10000 ? 100000000 : sum * sum;
        long p = penalty(e);
        d += p > 0 ? p * p : p < 0 && p > -10000 ? -p * p : 0;
        boolean hyphen = node[0] >= 0 && kind((int) node[0]) == HYPHEN;
        d += hyphen && kind(e) == HYPHEN ? doubleDemerits : 0;
        d += hyphen && e == last ? finalDemerits : 0;
        d += Math.abs(node[2] - line[1]) > 1 ? adjacentDemerits : 0;
        return d;
    }

    /** Nodes are place, lines, fit, total, former. */
    private int pass(int toleranceNow, boolean firstPass, long more, boolean isLast) {
        nodes.clear();
        nodes.add(new long[] {-1, 0, 2, 0, -1});
        for (int e = 0; e <= last; e++) {
            if (isPlace(e, firstPass)) {
                nodes.addAll(nodesAt(e, toleranceNow, firstPass, more, isLast));
            }
        }
        return chosenOne(isLast);
    }

    private List<long[]> nodesAt(int e, int toleranceNow, boolean firstPass, long more, boolean isLast) {
        List<long[]> here = new ArrayList<>();
        List<Integer> ending = new ArrayList<>();
        int alive = 0;
        for (int k = 0; k < nodes.size(); k++) {
            long[] node = nodes.get(k);
            if (!isAlive(node, e, firstPass, more)) {
                continue;
            }
            alive++;
            int[] line = judge((int) node[0], e, more);
            if (line[0] == 10001 || penalty(e) == -10000) {
                ending.add(k);
            }
            if (line[0] <= toleranceNow) {
                offer(here, new long[] {e, node[1] + 1, line[1], node[3] + demerits(node, e, line), k});
            }
        }
        if (isLast && here.isEmpty() && alive > 0 && ending.size() == alive) {
            int best = ending.get(0);
            for (int k : ending) {
                long[] a = nodes.get(k);
                long[] b = nodes.get(best);
                if (a[1] != b[1] ? a[1] > b[1] : a[0] != b[0] ? a[0] < b[0] : a[2] > b[2]) {
                    best = k;
                }
            }
            long[] former = nodes.get(best);
            here.add(new long[] {e, former[1] + 1, judge((int) former[0], e, more)[1], former[3], best});
        }
        return here;
    }

    private void offer(List<long[]> here, long[] node) {
        for (int i = 0; i < here.size(); i++) {
            long[] other = here.get(i);
            if (other[1] == node[1] && other[2] == node[2]) {
                long[] a = nodes.get((int) node[4]);
                long[] b = nodes.get((int) other[4]);
                if (node[3] != other[3] ? node[3] < other[3] : a[0] != b[0] ? a[0] < b[0] : a[2] > b[2]) {
                    here.set(i, node);
                }
                return;
            }
        }
        here.add(node);
    }

    private int chosenOne(boolean isLast) {
        int best = least(-1);
        if (best < 0 || looseness == 0) {
            return best;
        }
        long wished = nodes.get(best)[1] + looseness;
        long nearest = nodes.get(best)[1];
        for (long[] node : nodes) {
            boolean between = node[0] == last && Math.min(nodes.get(best)[1], wished) <= node[1]
                && node[1] <= Math.max(nodes.get(best)[1], wished);
            if (between && Math.abs(node[1] - wished) < Math.abs(nearest - wished)) {
                nearest = node[1];
            }
        }
        return nearest != wished && !isLast ? -1 : least(nearest);
    }

    /** The least node at the end, of those with so many lines if that is not -1. */
    private int least(long lines) {
        int best = -1;
        for (int k = 1; k < nodes.size(); k++) {
            long[] a = nodes.get(k);
            if (a[0] != last || lines >= 0 && a[1] != lines) {
                continue;
            }
            long[] b = best < 0 ? null : nodes.get(best);
            if (b == null || (a[3] != b[3] ? a[3] < b[3] : a[1] != b[1] ? a[1] < b[1] : a[2] < b[2])) {
                best = k;
            }
        }
        return best;
    }
}
