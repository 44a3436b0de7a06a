import java.lang.reflect.Array;
import java.lang.reflect.Field;
import java.lang.reflect.Modifier;
import java.util.ArrayDeque;
import java.util.Collections;
import java.util.Deque;
import java.util.IdentityHashMap;
import java.util.Set;

/** All calls of one run live in one room: what an object has is small, and as much at its end as at its beginning. */
public final class RoomTest {
    /** With these a room of 600,000 objects and 7.3 million fields and elements has place for more than a thousand. */
    private static final int MOST_OBJECTS = 100;
    private static final int MOST_ELEMENTS = 5000;

    public static void main(String[] args) throws IllegalAccessException {
        NineDays x = new NineDays();
        int[] atFirst = room(x);
        Check.due("objects: " + atFirst[0], atFirst[0] <= MOST_OBJECTS, true);
        Check.due("fields and elements: " + atFirst[1], atFirst[1] <= MOST_ELEMENTS, true);
        BoundsTest.busy(x);
        everyQuestion(x);
        same("busy", x, atFirst);
        NineDays y = new NineDays();
        BoundsTest.full(y);
        y.go(100);
        everyQuestion(y);
        same("full", y, atFirst);
        Check.end();
    }

    private static void everyQuestion(NineDays x) {
        for (int n = 1; n <= 6; n++) x.game(n, 999, n % 2);
        x.judge(6, 999, 531440);
        x.beside(true);
        x.beside(false);
        x.binds(255, 10, 7);
        x.clash(0);
        x.words();
        x.late(0);
        x.called(0, 0, 240);
        x.holds(0, 0, 240, 1);
        x.force(0, 240);
        x.lending(63);
    }

    private static void same(String name, NineDays x, int[] atFirst) throws IllegalAccessException {
        int[] now = room(x);
        Check.due(name + ": objects", now[0], atFirst[0]);
        Check.due(name + ": fields and elements", now[1], atFirst[1]);
    }

    /** How many objects and arrays can be come to from one, itself too; how many fields and elements these have. */
    private static int[] room(Object from) throws IllegalAccessException {
        Set<Object> seen = Collections.newSetFromMap(new IdentityHashMap<>());
        Deque<Object> next = new ArrayDeque<>();
        seen.add(from);
        next.add(from);
        int elements = 0;
        while (!next.isEmpty()) {
            Object o = next.remove();
            if (o.getClass().isArray()) {
                elements += Array.getLength(o);
                continue;
            }
            for (Field f : o.getClass().getDeclaredFields()) {
                if (Modifier.isStatic(f.getModifiers())) continue;
                elements++;
                if (f.getType().isPrimitive()) continue;
                f.setAccessible(true);
                Object value = f.get(o);
                if (value != null && seen.add(value)) next.add(value);
            }
        }
        return new int[] {seen.size(), elements};
    }
}
