import java.math.BigInteger;
import java.util.ArrayList;
import java.util.List;
import java.util.Random;

/** Boxes within boxes, packed and laid out by the program and, word by word as the document says it, by a plain model. */
public final class BoxModelTest {
    private static final int RULE = 0;
    private static final int BOX = 1;
    private static final int GLUE = 2;
    private static final int KERN = 3;
    private static final long RUNNING = Long.MIN_VALUE;

    /** A rule's width, height, depth; a box's shift; glue's width, stretch, order, shrink; a kern's width. */
    private static final class Item {
        private int kind;
        private final long[] v = new long[4];
        private Box box;
    }

    private static final class Box {
        private boolean along;
        private final List<Item> list = new ArrayList<>();
        private long width;
        private long height;
        private long depth;
        private long excess;
        private int order;
        private long total;
    }

    private final Random random;
    private final StringBuilder source = new StringBuilder();
    private final StringBuilder marks = new StringBuilder();
    private int overfull;
    private int boxes;
    private int count;

    private BoxModelTest(Random random) {
        this.random = random;
    }

    public static void main(String[] args) {
        Random random = new Random(61116);
        for (int i = 0; i < 2500; i++) {
            new BoxModelTest(random).compare();
        }
        House.close();
    }

    private long one(int... of) {
        return of[random.nextInt(of.length)];
    }

    private long size() {
        return one(0, 1, 2, 3, 7, 10, -1, -2) * one(1, 1, 3, 101, 65536) + one(0, 0, 1);
    }

    private void compare() {
        source.append("\\topskip0pt\\baselineskip9sp plus2sp minus1sp\\lineskip3sp plus1fil\\lineskiplimit2sp\\setbox1");
        Box box = box(random.nextBoolean(), 0);
        source.append("\\count1=\\wd1 \\count2=\\ht1 \\count3=\\dp1 \\box1 ");
        layOut(box, 0, Math.max(0, box.height));
        String text = source.toString();
        House h = House.ran(text, 0);
        House.due(text + " (width)", h.house.count(1), box.width);
        House.due(text + " (height)", h.house.count(2), box.height);
        House.due(text + " (depth)", h.house.count(3), box.depth);
        House.due(text + " (boxes)", h.house.about(2), boxes);
        House.due(text + " (items)", h.house.about(3), count);
        House.due(text + " (overfull)", h.house.about(5), overfull);
        StringBuilder got = new StringBuilder();
        for (int[] place : new Printed(h.file()).places) {
            got.append(place[0]).append(',').append(place[1]).append(' ');
        }
        House.due(text + " (marks)", got.toString(), marks.toString());
    }

    /** Writes a box, and makes its model. */
    private Box box(boolean along, int level) {
        Box box = new Box();
        box.along = along;
        int how = random.nextInt(3);
        long size = size();
        source.append(along ? "\\hbox" : "\\vbox").append(how == 0 ? "" : how == 1 ? " to" + size + "sp" : " spread" + size + "sp").append("{");
        long before = RUNNING;
        int n = random.nextInt(6);
        for (int i = 0; i < n; i++) {
            int kind = random.nextInt(level > 2 ? 7 : 10);
            if (kind < 2) {
                box.list.add(glue());
                source.append(along ? "\\hskip" : "\\vskip").append(written(box.list.get(box.list.size() - 1)));
            } else if (kind < 3) {
                Item kern = item(KERN, size(), 0, 0, 0);
                box.list.add(kern);
                source.append("\\kern").append(kern.v[0]).append("sp\\relax ");
            } else if (kind < 6) {
                box.list.add(rule(along));
                before = RUNNING;
            } else if (kind < 7) {
                source.append("\\penalty5 ");
            } else {
                before = within(box, level, before);
            }
        }
        source.append("}");
        pack(box, how, size);
        return box;
    }

    /** A box in the list of another one, and the glue before it. */
    private long within(Box box, int level, long before) {
        long shift = random.nextBoolean() ? 0 : size();
        if (shift != 0) {
            source.append(box.along ? "\\lower" : "\\moveright").append(shift).append("sp");
        }
        Item item = item(BOX, shift, 0, 0, 0);
        item.box = box(random.nextBoolean(), level + 1);
        if (!box.along && before != RUNNING) {
            long width = 9 - before - item.box.height;
            box.list.add(width < 2 ? item(GLUE, 3, 65536, 1, 0) : item(GLUE, width, 2, 0, 1));
        }
        box.list.add(item);
        return item.box.depth;
    }

    private static Item item(int kind, long a, long b, long c, long d) {
        Item item = new Item();
        item.kind = kind;
        item.v[0] = a;
        item.v[1] = b;
        item.v[2] = c;
        item.v[3] = d;
        return item;
    }

    private Item glue() {
        int order = (int) one(0, 0, 0, 1, 2, 3);
        long stretch = order == 0 ? Math.abs(size()) : one(0, 1, 2) * 65536;
        return item(GLUE, size(), stretch, stretch == 0 ? 0 : order, Math.abs(size()));
    }

    private static String written(Item glue) {
        String[] units = {"sp", "fil", "fill", "filll"};
        int order = (int) glue.v[2];
        return glue.v[0] + "sp plus" + (order == 0 ? glue.v[1] : glue.v[1] / 65536) + units[order] + " minus" + glue.v[3] + "sp\\relax ";
    }

    private Item rule(boolean along) {
        Item rule = along ? item(RULE, 26214, RUNNING, RUNNING, 0) : item(RULE, RUNNING, 26214, 0, 0);
        source.append(along ? "\\vrule" : "\\hrule");
        String[] names = {"width", "height", "depth"};
        for (int k = 0; k < 3; k++) {
            if (random.nextBoolean()) {
                rule.v[k] = size();
                source.append(" ").append(names[k]).append(rule.v[k]).append("sp");
            }
        }
        source.append("\\relax ");
        return rule;
    }

    private static long still(long size) {
        return size == RUNNING ? 0 : size;
    }

    private void pack(Box box, int how, long size) {
        long length = 0;
        long last = 0;
        long[] give = new long[5];
        for (Item item : box.list) {
            boolean space = item.kind == GLUE || item.kind == KERN;
            long width = item.kind == BOX ? item.box.width : still(item.v[0]);
            long height = item.kind == BOX ? item.box.height : still(item.v[1]);
            long depth = item.kind == BOX ? item.box.depth : still(item.v[2]);
            long shift = item.kind == BOX ? item.v[0] : 0;
            if (item.kind == GLUE) {
                give[(int) item.v[2]] += item.v[1];
                give[4] += item.v[3];
            }
            if (box.along) {
                length += width;
                box.height = space ? box.height : Math.max(box.height, height - shift);
                box.depth = space ? box.depth : Math.max(box.depth, depth + shift);
            } else {
                length += last + (space ? width : height);
                last = space ? 0 : depth;
                box.width = space || item.kind == RULE && item.v[0] == RUNNING ? box.width : Math.max(box.width, width + shift);
            }
        }
        box.excess = how == 0 ? 0 : how == 1 ? size - length : size;
        length += box.excess;
        if (box.along) {
            box.width = length;
        } else {
            box.height = length;
            box.depth = last;
        }
        if (box.excess > 0) {
            for (int k = 0; k < 4; k++) {
                box.order = give[k] != 0 ? k : box.order;
            }
            box.total = give[box.order];
        } else if (box.excess < 0) {
            box.total = give[4];
            overfull += box.total < -box.excess ? 1 : 0;
            box.excess = Math.max(box.excess, -box.total);
        }
        boxes++;
        count += box.list.size();
    }

    private static long share(Box box, long given) {
        if (box.total == 0) {
            return 0;
        }
        BigInteger product = BigInteger.valueOf(given).multiply(BigInteger.valueOf(Math.abs(box.excess)));
        BigInteger twice = product.shiftLeft(1).add(BigInteger.valueOf(box.total));
        long nearest = twice.divide(BigInteger.valueOf(2 * box.total)).longValueExact();
        return box.excess < 0 ? -nearest : nearest;
    }

    private void layOut(Box box, long x, long y) {
        long length = 0;
        long last = 0;
        long given = 0;
        for (Item item : box.list) {
            boolean space = item.kind == GLUE || item.kind == KERN;
            long width = item.kind == BOX ? item.box.width : still(item.v[0]);
            long height = item.kind == BOX ? item.box.height : still(item.v[1]);
            long depth = item.kind == BOX ? item.box.depth : still(item.v[2]);
            long place = length + (box.along ? 0 : last) + share(box, given);
            if (item.kind == BOX && box.along) {
                layOut(item.box, x + place, y + item.v[0]);
            } else if (item.kind == BOX) {
                layOut(item.box, x + item.v[0], y - box.height + place + height);
            } else if (item.kind == RULE && box.along) {
                mark(x + place, y, width, item.v[1] == RUNNING ? box.height : height, item.v[2] == RUNNING ? box.depth : depth);
            } else if (item.kind == RULE) {
                mark(x, y - box.height + place + height, item.v[0] == RUNNING ? box.width : width, height, depth);
            }
            length += box.along ? width : last + (space ? width : height);
            last = box.along || space ? 0 : depth;
            if (item.kind == GLUE) {
                given += box.excess < 0 ? item.v[3] : item.v[2] == box.order ? item.v[1] : 0;
            }
        }
    }

    private void mark(long x, long y, long width, long height, long depth) {
        if (width > 0 && height + depth > 0) {
            marks.append(x).append(',').append(y + depth).append(' ');
        }
    }
}
