import com.sun.management.ThreadMXBean;
import java.lang.management.ManagementFactory;
import java.lang.reflect.Array;
import java.lang.reflect.Field;
import java.lang.reflect.Modifier;
import java.util.ArrayDeque;
import java.util.Collections;
import java.util.IdentityHashMap;
import java.util.Set;

/**
 * The room of one run is some 600,000 objects and 7.3 million fields and elements. Even 512 of
 * the largest meshes must fit, and a mesh makes and keeps nothing after its constructor.
 */
public final class RoomTest {
    public static void main(String[] args) throws IllegalAccessException {
        WormMesh mesh = new WormMesh(3, 3, 4, 2);
        long[] atFirst = sizeOf(mesh);
        System.out.println(atFirst[0] + " objects, " + atFirst[1] + " fields and elements");
        Due.is("objects are few", true, atFirst[0] <= 600_000 / 512);
        Due.is("fields and elements are few", true, atFirst[1] <= 7_300_000 / 512);
        for (int i = 0; i < 250; i++) {
            mesh.request(i % 9, i / 9 % 9, i % 2 == 0, i % 8, i);
            mesh.run(i % 5);
        }
        long[] later = sizeOf(mesh);
        Due.is("objects later", atFirst[0], later[0]);
        Due.is("fields and elements later", atFirst[1], later[1]);
        callsMakeNoObjects();
        Due.end();
    }

    private static void callsMakeNoObjects() {
        callAll(new WormMesh(3, 3, 4, 2));
        WormMesh mesh = new WormMesh(3, 3, 4, 2);
        ThreadMXBean bean = (ThreadMXBean) ManagementFactory.getThreadMXBean();
        long before = bean.getCurrentThreadAllocatedBytes();
        callAll(mesh);
        long made = bean.getCurrentThreadAllocatedBytes() - before;
        // Less than a byte for each tick: the measuring itself may make a little.
        Due.is("bytes made by calls: " + made, true, made < 2000);
    }

    private static void callAll(WormMesh mesh) {
        for (int i = 0; i < 45; i++) {
            mesh.request(i % 9, i / 9 % 9, i % 2 == 0, i % 8, i);
            mesh.hold(i % 9, i % 4 == 0);
            mesh.run(60);
            mesh.reply(i, i % 3);
            mesh.memory(i % 9, i % 8);
            mesh.waiting(i % 9);
            mesh.lane(i % 9, i % 5, i % 4);
            mesh.output(i % 9, i % 5, i % 4);
            mesh.arrival(i % 9, i % 4);
        }
    }

    private static long[] sizeOf(Object root) throws IllegalAccessException {
        Set<Object> seen = Collections.newSetFromMap(new IdentityHashMap<>());
        ArrayDeque<Object> open = new ArrayDeque<>();
        open.add(root);
        long places = 0;
        while (!open.isEmpty()) {
            Object object = open.remove();
            if (!seen.add(object)) {
                continue;
            }
            if (object.getClass().isArray()) {
                places += Array.getLength(object);
                addElements(object, open);
                continue;
            }
            for (Field field : object.getClass().getDeclaredFields()) {
                if (Modifier.isStatic(field.getModifiers())) {
                    continue;
                }
                places++;
                field.setAccessible(true);
                if (!field.getType().isPrimitive() && field.get(object) != null) {
                    open.add(field.get(object));
                }
            }
        }
        return new long[] {seen.size(), places};
    }

    private static void addElements(Object array, ArrayDeque<Object> open) {
        if (array.getClass().getComponentType().isPrimitive()) {
            return;
        }
        for (int i = 0; i < Array.getLength(array); i++) {
            if (Array.get(array, i) != null) {
                open.add(Array.get(array, i));
            }
        }
    }
}
