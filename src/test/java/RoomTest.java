import java.lang.reflect.Array;
import java.lang.reflect.Field;
import java.lang.reflect.Modifier;
import java.util.ArrayDeque;
import java.util.IdentityHashMap;
import java.util.Map;

/** The room that an object takes: all is made at first, and runs make little more, however much they do. */
public final class RoomTest {
    private static final long MOST_OBJECTS = 600000;
    private static final long MOST_ELEMENTS = 7300000;

    public static void main(String[] args) throws IllegalAccessException {
        TypeHouse fresh = new TypeHouse();
        House.due("objects of a new house", objects(fresh) < 1000 ? 1 : 0, 1);
        House.due("elements of a new house", elements(fresh) < 1500000 ? 1 : 0, 1);
        House h = House.withFont();
        long before = elements(h.house);
        for (int i = 0; i < 100; i++) {
            h.give(16, "a1b c1d");
            h.give(17, "ab-cde");
            h.give(1, new Metrics().plain().bytes());
            h.run("\\font\\f=0 \\f\\hsize30pt abc de fgh i-j kl\\-mn\\par\\def\\x{\\hbox{a}}\\x\\setbox3\\vbox{\\x\\x}\\box3 \\u");
        }
        House.due("runs make nothing that stays", elements(h.house), before);
        // The one row that grows: what groups bring back. Each pair saves four values; with all ticks this is the most.
        h.house.fuel(200000);
        House.due("many values to bring back", h.run("{\\def\\l{\\global\\skip1=1pt\\relax\\skip1=2pt\\relax\\l}\\l"), 1000001);
        House.due("it grows by doubling", elements(h.house) - before < 1100000 ? 1 : 0, 1);
        // With doubling all rows that there were are less than twice the last one.
        long all = before + 2 * (elements(h.house) - before) + 2 * 4096;
        House.due("all rows that were made have room", all < MOST_ELEMENTS ? 1 : 0, 1);
        House.due("objects", objects(h.house) < MOST_OBJECTS ? 1 : 0, 1);
        House.close();
    }

    private static Map<Object, Boolean> reached(Object from) throws IllegalAccessException {
        Map<Object, Boolean> seen = new IdentityHashMap<>();
        ArrayDeque<Object> left = new ArrayDeque<>();
        left.add(from);
        seen.put(from, true);
        while (!left.isEmpty()) {
            Object o = left.poll();
            if (o.getClass().isArray()) {
                for (int i = 0; !o.getClass().getComponentType().isPrimitive() && i < Array.getLength(o); i++) {
                    visit(Array.get(o, i), seen, left);
                }
                continue;
            }
            for (Field f : o.getClass().getDeclaredFields()) {
                if (!Modifier.isStatic(f.getModifiers()) && !f.getType().isPrimitive()) {
                    f.setAccessible(true);
                    visit(f.get(o), seen, left);
                }
            }
        }
        return seen;
    }

    private static void visit(Object o, Map<Object, Boolean> seen, ArrayDeque<Object> left) {
        if (o != null && seen.put(o, true) == null) {
            left.add(o);
        }
    }

    private static long objects(Object from) throws IllegalAccessException {
        return reached(from).size();
    }

    private static long elements(Object from) throws IllegalAccessException {
        long sum = 0;
        for (Object o : reached(from).keySet()) {
            sum += o.getClass().isArray() ? Array.getLength(o) : o.getClass().getDeclaredFields().length;
        }
        return sum;
    }
}
