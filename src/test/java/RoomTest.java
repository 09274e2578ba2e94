import java.lang.reflect.Array;
import java.lang.reflect.Field;
import java.lang.reflect.Modifier;
import java.util.ArrayDeque;
import java.util.Collections;
import java.util.Deque;
import java.util.IdentityHashMap;
import java.util.Set;

/** What an object holds, and that 512 calls of the dearest kinds make it hold no more. */
public final class RoomTest {
    private static int objects;
    private static int elements;

    public static void main(String[] args) throws IllegalAccessException {
        Formatseer seer = new Formatseer();
        count(seer);
        int objectsAtFirst = objects;
        int elementsAtFirst = elements;
        Check.due("few objects", true, () -> objectsAtFirst < 500);
        Check.due("few elements", true, () -> elementsAtFirst < 50000);
        int calls = 0;
        for (int sample = 0; sample < 10; sample++) {
            Check.sample(seer, sample, 1, 2, 3, 4, 5, sample, 7, 8, 0);
            calls += 11;
        }
        Check.describe(seer, "nnr0(r0(r0(r0(v1))))");
        calls += 22;
        for (; calls < 500; calls += 10) {
            seer.isSound();
            seer.cover(0);
            seer.relations(3);
            seer.judge(4, 2);
            seer.states(3);
            seer.append(5 + calls / 10 % 5, 9);
        }
        count(seer);
        Check.due("no more objects", objectsAtFirst, () -> objects);
        Check.due("no more elements", elementsAtFirst, () -> elements);
        Check.end();
    }

    private static void count(Object root) throws IllegalAccessException {
        Set<Object> seen = Collections.newSetFromMap(new IdentityHashMap<>());
        Deque<Object> open = new ArrayDeque<>();
        objects = 0;
        elements = 0;
        open.add(root);
        seen.add(root);
        while (!open.isEmpty()) {
            Object one = open.remove();
            objects++;
            if (one.getClass().isArray()) {
                elements += Array.getLength(one);
                for (int index = 0; index < Array.getLength(one) && one instanceof Object[]; index++) {
                    add(Array.get(one, index), seen, open);
                }
                continue;
            }
            for (Field field : one.getClass().getDeclaredFields()) {
                if (!Modifier.isStatic(field.getModifiers())) {
                    elements++;
                    field.setAccessible(true);
                    if (!field.getType().isPrimitive()) {
                        add(field.get(one), seen, open);
                    }
                }
            }
        }
    }

    private static void add(Object one, Set<Object> seen, Deque<Object> open) {
        if (one != null && seen.add(one)) {
            open.add(one);
        }
    }
}
