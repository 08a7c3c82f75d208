import java.lang.reflect.Constructor;
import java.lang.reflect.Field;
import java.lang.reflect.Method;
import java.lang.reflect.Modifier;
import java.util.Set;
import java.util.TreeSet;

/** The public face: the members of the document, none more, and no exception from any of them. */
public final class FaceTest {
    private static final int[] ODD =
            {Integer.MIN_VALUE, -61, -9, -1, 0, 1, 2, 3, 4, 5, 8, 9, 60, 61, Integer.MAX_VALUE};

    public static void main(String[] args) {
        Due.is("BAD", -1, WormMesh.BAD);
        Due.is("FULL", -2, WormMesh.FULL);
        Due.is("the class is public and final", Modifier.PUBLIC | Modifier.FINAL,
                WormMesh.class.getModifiers());
        members();
        oddArguments();
        Due.end();
    }

    private static void members() {
        Set<String> seen = new TreeSet<>();
        for (Field field : WormMesh.class.getDeclaredFields()) {
            add(seen, field.getModifiers(), field.getName());
        }
        for (Constructor<?> constructor : WormMesh.class.getDeclaredConstructors()) {
            add(seen, constructor.getModifiers(), "new" + constructor.getParameterCount());
        }
        for (Method method : WormMesh.class.getDeclaredMethods()) {
            add(seen, method.getModifiers(), method.getName() + method.getParameterCount());
        }
        Due.is("members that are not private",
                "[BAD, FULL, arrival2, hold2, lane3, memory2, new4, nodes0, output3, replies0,"
                        + " reply2, request5, run1, sent0, ticks0, waiting1]",
                seen.toString());
    }

    private static void add(Set<String> seen, int modifiers, String name) {
        if (!Modifier.isPrivate(modifiers)) {
            seen.add(name);
        }
    }

    /** Far more than 512 calls: what they answer is free then, but none may throw. */
    private static void oddArguments() {
        int thrown = 0;
        try {
            for (int a : ODD) {
                for (int b : ODD) {
                    tryAll(new WormMesh(a, b, b, a), a, b);
                }
            }
        } catch (RuntimeException e) {
            e.printStackTrace(System.out);
            thrown++;
        }
        Due.is("exceptions", 0, thrown);
    }

    private static void tryAll(WormMesh mesh, int a, int b) {
        for (int c : ODD) {
            mesh.request(a, b, c > 2, c, a);
            mesh.request(b, c, c > 2, a, b);
            mesh.hold(c, b > c);
            mesh.run(c);
            mesh.reply(c, a);
            mesh.memory(c, b);
            mesh.waiting(c);
            mesh.lane(a, b, c);
            mesh.lane(c, a, b);
            mesh.output(a, b, c);
            mesh.output(c, a, b);
            mesh.arrival(c, a);
        }
        for (int i = 0; i < 1000; i++) {
            mesh.request(i % 9, i / 3 % 9, i % 2 == 0, i % 8, i);
            mesh.run(i % 7);
        }
    }
}
