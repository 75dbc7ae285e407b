import java.lang.reflect.Array;
import java.lang.reflect.Field;
import java.lang.reflect.Modifier;
import java.util.ArrayDeque;
import java.util.IdentityHashMap;

/** All that an object holds is made with it, and is so little that 512 objects fit into one room. */
public final class RoomTest {
    private static final int CALLS = 512;
    private static final int MOST_OBJECTS = 600_000 / CALLS;
    private static final int MOST_ELEMENTS = 7_300_000 / CALLS;

    public static void main(String[] args) throws IllegalAccessException {
        Check c = new Check();
        int[] fresh = count(c.x);
        Check.same("few objects: " + fresh[0], fresh[0] < MOST_OBJECTS, true);
        Check.same("few elements: " + fresh[1], fresh[1] < MOST_ELEMENTS, true);
        c.line("a=#2(2)+#3(2)");
        c.line("b=a*#2(2)-@1(4,-4,-3,1,2,2)");
        c.line("a/@0(-999999999,7,1)?b");
        c.floor(0, 30);
        int[] used = count(c.x);
        Check.same("objects behind calls", used[0], fresh[0]);
        Check.same("elements behind calls", used[1], fresh[1]);
        Check.end();
    }

    private static int[] count(Object root) throws IllegalAccessException {
        IdentityHashMap<Object, Boolean> seen = new IdentityHashMap<>();
        ArrayDeque<Object> open = new ArrayDeque<>();
        open.add(root);
        int elements = 0;
        while (!open.isEmpty()) {
            Object o = open.poll();
            if (seen.put(o, true) != null) {
                continue;
            }
            if (o.getClass().isArray()) {
                int length = Array.getLength(o);
                elements += length;
                for (int i = 0; i < length && !o.getClass().getComponentType().isPrimitive(); i++) {
                    add(open, Array.get(o, i));
                }
            } else {
                for (Field f : o.getClass().getDeclaredFields()) {
                    if (!Modifier.isStatic(f.getModifiers())) {
                        elements++;
                        f.setAccessible(true);
                        if (!f.getType().isPrimitive()) {
                            add(open, f.get(o));
                        }
                    }
                }
            }
        }
        return new int[] {seen.size(), elements};
    }

    private static void add(ArrayDeque<Object> open, Object o) {
        if (o != null) {
            open.add(o);
        }
    }
}
