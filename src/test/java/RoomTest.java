import java.lang.reflect.Array;
import java.lang.reflect.Field;
import java.lang.reflect.Modifier;
import java.util.ArrayDeque;
import java.util.Collections;
import java.util.Deque;
import java.util.IdentityHashMap;
import java.util.Set;

/** All calls of a run live in one room: what an object keeps is small, and stays as it is from its 20th ACT on. */
public final class RoomTest {
    private static final int MOST_THINGS = 150;
    private static final int MOST_ELEMENTS = 25000;
    private static final String TEXT = "cache 8 by 4 of 1;store a ints 400;store b floats 400;store c words 400;store d bytes 400;"
        + "store e doubles 400;store f texels 400;texture p on a at 0 size 16 by 16 levels 5 curves mirror;"
        + "texture q on b at 59 size 16 by 16 levels 5 tiles clamp;fill p 1 20 300;fill q 9 8 7;";

    private static int things;
    private static int elements;

    private RoomTest() {
    }

    public static void main(String[] args) throws IllegalAccessException {
        TexelBank x = Due.told(TEXT);
        count(x);
        int empty = elements;
        Due.dueTrue("a new object has " + things + " objects and arrays", things <= MOST_THINGS);
        Due.dueTrue("a new object has " + elements + " fields and elements", elements <= MOST_ELEMENTS);
        for (int k = 0; k < 20; k++) {
            x.poke(k % 2, 5, k, k + 1);
        }
        useAll(x, 1);
        count(x);
        int full = elements;
        int fullThings = things;
        Due.due("acts", x.about(8), 20);
        Due.dueTrue("it is less when there is no act yet", empty < full);
        Due.dueTrue("with all acts it has " + things + " objects and arrays", things <= MOST_THINGS);
        Due.dueTrue("with all acts it has " + elements + " fields and elements", elements <= MOST_ELEMENTS);
        for (int k = 0; k < 10; k++) {
            useAll(x, k);
            Due.tell(x, k % 2 == 0 ? TEXT : "store a bits 1");
        }
        count(x);
        Due.due("objects and arrays after more calls", things, fullThings);
        Due.due("fields and elements after more calls", elements, full);
        Due.close();
    }

    private static void useAll(TexelBank x, int k) {
        x.put(5, k, 9, k);
        x.put(2, k, 10, k % 7);
        x.convert(0, 1);
        x.convert(1, 4);
        x.paint(0, k, k, 1000 + k);
        x.fill(1, k, 2, 3);
        x.make(0);
        x.unlike(0, 1);
        x.loses(0, 3);
        x.image(k % 2);
        x.fetch(0, 0, k, k);
        x.walk(0, 0, 3);
        x.bestWalk(1, 0);
        x.bestOrder(1, 0, 1);
        x.hottest(0, 0);
        x.smooth(0, 1, 40, 50);
        x.blend(0, 40, 50, 20);
        x.filtered(0, 40, 50, 100, 90, 3, 4);
        x.off(0, 0, 1, 1);
        x.area(0, 0, -9, -9, 16, 16);
        x.stale(1);
        x.undo();
        x.fill(1, k, 4, 3);
    }

    /** Counts what is kept: each object and array once, of it each field that is not static, each element. */
    private static void count(TexelBank x) throws IllegalAccessException {
        Set<Object> seen = Collections.newSetFromMap(new IdentityHashMap<>());
        Deque<Object> left = new ArrayDeque<>();
        left.add(x);
        things = 0;
        elements = 0;
        while (!left.isEmpty()) {
            Object thing = left.remove();
            if (seen.add(thing)) {
                things++;
                if (thing.getClass().isArray()) {
                    countElements(thing, left);
                } else {
                    countFields(thing, left);
                }
            }
        }
    }

    private static void countElements(Object array, Deque<Object> left) {
        elements += Array.getLength(array);
        if (array instanceof Object[] objects) {
            for (Object object : objects) {
                addTo(left, object);
            }
        }
    }

    private static void countFields(Object object, Deque<Object> left) throws IllegalAccessException {
        for (Field field : object.getClass().getDeclaredFields()) {
            if (!Modifier.isStatic(field.getModifiers())) {
                elements++;
                if (!field.getType().isPrimitive()) {
                    field.setAccessible(true);
                    addTo(left, field.get(object));
                }
            }
        }
    }

    private static void addTo(Deque<Object> left, Object object) {
        if (object != null) {
            left.add(object);
        }
    }
}
