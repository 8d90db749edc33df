import java.lang.reflect.Array;
import java.lang.reflect.Field;
import java.lang.reflect.Modifier;
import java.util.IdentityHashMap;
import java.util.Map;

/** "All memory is rows made once": what an object holds after a full run is what it held when it was new. */
public final class MemoryTest {
    public static void main(String[] args) throws IllegalAccessException {
        Check.sentence("All memory is rows made once");
        RecordTimes x = new RecordTimes();
        Map<Object, Boolean> before = heldBy(x);
        fullRun(x);
        Map<Object, Boolean> after = heldBy(x);
        Check.due("as many objects", before.size(), after.size());
        for (Object o : after.keySet()) {
            Check.due("made with the object: " + o, 1, before.containsKey(o) ? 1 : 0);
        }
        Check.due("few enough for a thousand objects in one room", 1, elementsOf(after) < 7300 ? 1 : 0);
        Check.finish();
    }

    private static void fullRun(RecordTimes x) {
        x.right(0, 0, true);
        for (int k = 0; k < 200; k++) {
            x.slot(k % 10, k, 1 + k % 8, k, 0, 0);
        }
        for (int k = 0; k < 60; k++) {
            x.mark(k % 10, k, 3 * k);
        }
        for (int k = 0; k < 200; k++) {
            x.listen(0, k);
            x.poke(k, 0, 1);
        }
        for (int k = 0; k < 200; k++) {
            x.drop(k);
        }
    }

    private static Map<Object, Boolean> heldBy(Object root) throws IllegalAccessException {
        Map<Object, Boolean> seen = new IdentityHashMap<>();
        look(root, seen);
        return seen;
    }

    private static void look(Object o, Map<Object, Boolean> seen) throws IllegalAccessException {
        if (o == null || seen.put(o, true) != null) {
            return;
        }
        if (o.getClass().isArray()) {
            for (int k = 0; !o.getClass().getComponentType().isPrimitive() && k < Array.getLength(o); k++) {
                look(Array.get(o, k), seen);
            }
            return;
        }
        for (Field f : o.getClass().getDeclaredFields()) {
            if (!f.getType().isPrimitive() && !Modifier.isStatic(f.getModifiers())) {
                f.setAccessible(true);
                look(f.get(o), seen);
            }
        }
    }

    private static int elementsOf(Map<Object, Boolean> held) {
        int elements = 0;
        for (Object o : held.keySet()) {
            elements += o.getClass().isArray() ? Array.getLength(o) : o.getClass().getDeclaredFields().length;
        }
        return elements;
    }
}
