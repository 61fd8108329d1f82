import java.math.BigInteger;
import java.util.ArrayList;
import java.util.List;
import java.util.Random;

/** Outer lists of any kind, made into pages by the program and, word by word as the document says it, by a plain model. */
public final class PageModelTest {
    private static final int BOX = 0;
    private static final int GLUE = 1;
    private static final int KERN = 2;
    private static final int PENALTY = 3;
    private static final long POINT = 65536;
    private static final long AWFUL = 1073741823;
    private static final long NONE = Long.MIN_VALUE;

    /** Kind; height, depth and what a rule in it is above and below; or width, stretch, order, shrink; or the penalty. */
    private final List<long[]> items = new ArrayList<>();
    private final List<String> pages = new ArrayList<>();
    private final StringBuilder source = new StringBuilder();
    private long height = 600 * POINT;
    private long top = 10 * POINT;
    private long deepest = 4 * POINT;
    private long before = NONE;
    private int start;
    private int first = -1;
    private long[] frame;

    public static void main(String[] args) {
        Random random = new Random(1116);
        for (int i = 0; i < 2500; i++) {
            new PageModelTest().compare(random);
        }
        House.close();
    }

    private static long one(Random random, int... of) {
        return of[random.nextInt(of.length)];
    }

    private void compare(Random random) {
        source.append("\\baselineskip6pt plus1pt\\lineskip1pt minus1pt\\lineskiplimit1pt ");
        changeFrame(random);
        int n = 1 + random.nextInt(25);
        for (int i = 0; i < n; i++) {
            step(random);
        }
        come(GLUE, 0, 65536, 2, 0);
        come(PENALTY, -10000, 0, 0, 0);
        String text = source.toString();
        House h = House.ran(text, 0);
        House.due(text + " (pages)", h.house.about(1), pages.size());
        List<int[]> places = new Printed(h.file()).places;
        StringBuilder got = new StringBuilder();
        for (int[] place : places) {
            got.append(place[1]).append(' ');
        }
        House.due(text + " (marks)", got.toString(), String.join("", pages));
    }

    private void changeFrame(Random random) {
        height = one(random, 0, 10, 20, 20, 30, 40, -5) * POINT + one(random, 0, 0, 1, -1, 32768);
        top = one(random, 0, 3, 5, 10, 10, -4) * POINT;
        deepest = one(random, 0, 1, 2, 4, -2) * POINT;
        source.append("\\vsize").append(height).append("sp\\topskip").append(top).append("sp\\maxdepth").append(deepest).append("sp");
    }

    private void step(Random random) {
        int kind = random.nextInt(12);
        if (kind < 3) {
            rule(random);
        } else if (kind < 5) {
            box(random);
        } else if (kind < 8) {
            long stretch = one(random, 0, 1, 2, 3) * POINT;
            int order = (int) one(random, 0, 0, 0, 0, 1, 2, 3);
            String[] units = {"sp", "fil", "fill", "filll"};
            long width = one(random, 0, 1, 2, 5, -1) * POINT + one(random, 0, 0, 1);
            long shrink = one(random, 0, 0, 1, 2, 5) * POINT;
            source.append("\\vskip").append(width).append("sp plus").append(order == 0 ? stretch : stretch / POINT)
                .append(units[order]).append(" minus").append(shrink).append("sp\\relax ");
            come(GLUE, width, stretch, stretch == 0 ? 0 : order, shrink);
        } else if (kind < 9) {
            long width = one(random, 0, 1, 2, -1) * POINT;
            source.append("\\kern").append(width).append("sp\\relax ");
            come(KERN, width, 0, 0, 0);
        } else if (kind < 11) {
            long p = one(random, 0, 0, 10, -10, 100, -100, 9999, 10000, -9999, -10000);
            source.append("\\penalty").append(p).append("\\relax ");
            come(PENALTY, p, 0, 0, 0);
        } else {
            changeFrame(random);
        }
    }

    private void rule(Random random) {
        long up = one(random, 1, 2, 5, 8) * POINT;
        long down = one(random, 0, 1, 3, 5) * POINT;
        source.append("\\hrule width1pt height").append(up).append("sp depth").append(down).append("sp\\relax ");
        before = NONE;
        come(BOX, up, down, up, down);
    }

    private void box(Random random) {
        long up = one(random, 1, 2, 5, 8) * POINT;
        long down = one(random, 0, 1, 3, 5) * POINT;
        source.append("\\hbox{\\vrule width1pt height").append(up).append("sp depth").append(down).append("sp}");
        if (before != NONE) {
            long width = 6 * POINT - before - up;
            if (width < POINT) {
                come(GLUE, POINT, 0, 0, POINT);
            } else {
                come(GLUE, width, POINT, 0, 0);
            }
        }
        before = down;
        come(BOX, up, down, up, down);
    }

    private void come(int kind, long a, long b, long c, long d) {
        items.add(new long[] {kind, a, b, c, d});
        boolean again = true;
        while (again) {
            again = look();
        }
    }

    private int kind(int i) {
        return (int) items.get(i)[0];
    }

    /** Looks at all breaks of the page: true if it has ended, and the next one has begun. */
    private boolean look() {
        for (int i = start; first < 0 && i < items.size(); i++) {
            if (kind(i) == BOX) {
                first = i;
                frame = new long[] {Math.max(0, height), top, Math.max(0, deepest)};
            }
        }
        if (first < 0) {
            return false;
        }
        long least = Long.MAX_VALUE;
        int best = -1;
        for (int i = first + 1; i < items.size(); i++) {
            boolean is = kind(i) == GLUE && kind(i - 1) == BOX || kind(i) == PENALTY && items.get(i)[1] < 10000
                || kind(i) == KERN && i + 1 < items.size() && kind(i + 1) == GLUE;
            if (!is) {
                continue;
            }
            long p = kind(i) == PENALTY ? items.get(i)[1] : 0;
            long cost = cost(i, p);
            if (cost <= least) {
                least = cost;
                best = i;
            }
            if (cost == AWFUL || p <= -10000) {
                ship(best);
                start = best;
                first = -1;
                return true;
            }
        }
        return false;
    }

    /** Length, depth, stretch of four orders, shrink of the page's list up to a place. */
    private long[] list(int to) {
        long[] s = {Math.max(0, frame[1] - items.get(first)[1]), 0, 0, 0, 0, 0, 0};
        for (int i = first; i < to; i++) {
            long[] item = items.get(i);
            if (item[0] == BOX) {
                s[0] += s[1] + item[1];
                s[1] = item[2];
                if (s[1] > frame[2]) {
                    s[0] += s[1] - frame[2];
                    s[1] = frame[2];
                }
            } else if (item[0] != PENALTY) {
                s[0] += s[1] + item[1];
                s[1] = 0;
            }
            if (item[0] == GLUE) {
                s[2 + (int) item[3]] += item[2];
                s[6] += item[4];
            }
        }
        return s;
    }

    private static long bad(long t, long s) {
        if (s == 0) {
            return 10000;
        }
        long r = t <= 7230584 ? 297 * t / s : s >= 1663497 ? t / (s / 297) : t;
        return r > 1290 ? 10000 : (r * r * r + 131072) / 262144;
    }

    private long cost(int place, long p) {
        long[] s = list(place);
        long e = frame[0] - s[0];
        long bad;
        if (e > 0) {
            bad = s[3] != 0 || s[4] != 0 || s[5] != 0 ? 0 : bad(e, s[2]);
        } else if (e == 0) {
            bad = 0;
        } else {
            bad = -e > s[6] ? AWFUL : bad(-e, s[6]);
        }
        if (bad == AWFUL) {
            return AWFUL;
        }
        return p <= -10000 ? p : bad < 10000 ? bad + p : 100000;
    }

    private void ship(int best) {
        long[] all = list(best);
        long excess = frame[0] - all[0];
        int order = 0;
        long total = 0;
        if (excess > 0) {
            for (int k = 0; k < 4; k++) {
                order = all[2 + k] != 0 ? k : order;
            }
            total = all[2 + order];
        } else if (excess < 0) {
            total = all[6];
            excess = Math.max(excess, -total);
        }
        StringBuilder marks = new StringBuilder();
        for (int i = first; i < best; i++) {
            if (kind(i) == BOX) {
                long[] s = list(i);
                long given = excess < 0 ? s[6] : s[2 + order];
                long y = s[0] + s[1] + items.get(i)[1] + share(given, excess, total);
                marks.append(y + items.get(i)[4]).append(' ');
            }
        }
        pages.add(marks.toString());
    }

    private static long share(long given, long excess, long total) {
        if (total == 0) {
            return 0;
        }
        BigInteger product = BigInteger.valueOf(given).multiply(BigInteger.valueOf(Math.abs(excess)));
        BigInteger twice = product.shiftLeft(1).add(BigInteger.valueOf(total));
        long nearest = twice.divide(BigInteger.valueOf(2 * total)).longValueExact();
        return excess < 0 ? -nearest : nearest;
    }
}
