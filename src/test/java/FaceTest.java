import java.lang.reflect.Constructor;
import java.lang.reflect.Field;
import java.lang.reflect.Method;
import java.lang.reflect.Modifier;
import java.util.Set;
import java.util.TreeSet;

/** The public face: the members of the document, none more, and no exception from any of them. */
public final class FaceTest {
    private static final String[] FACE = {
        "public WormMesh(int,int,int,int)",
        "public boolean WormMesh.hold(int,boolean)",
        "public int WormMesh.arrival(int,int)",
        "public int WormMesh.lane(int,int,int)",
        "public int WormMesh.memory(int,int)",
        "public int WormMesh.nodes()",
        "public int WormMesh.output(int,int,int)",
        "public int WormMesh.replies()",
        "public int WormMesh.reply(int,int)",
        "public int WormMesh.request(int,int,boolean,int,int)",
        "public int WormMesh.run(int)",
        "public int WormMesh.sent()",
        "public int WormMesh.ticks()",
        "public int WormMesh.waiting(int)",
        "public static final int WormMesh.BAD",
        "public static final int WormMesh.FULL"};
    private static final int[] ODD =
            {Integer.MIN_VALUE, -61, -9, -1, 0, 1, 2, 3, 4, 5, 8, 9, 60, 61, Integer.MAX_VALUE};

    public static void main(String[] args) {
        Due.is("BAD", -1, WormMesh.BAD);
        Due.is("FULL", -2, WormMesh.FULL);
        Due.is("the class is public and final", Modifier.PUBLIC | Modifier.FINAL,
                WormMesh.class.getModifiers());
        members();
        oddArguments();
        Due.end();
    }

    private static void members() {
        Set<String> seen = new TreeSet<>();
        for (Field field : WormMesh.class.getDeclaredFields()) {
            add(seen, field.getModifiers(), field.toString());
        }
        for (Constructor<?> constructor : WormMesh.class.getDeclaredConstructors()) {
            add(seen, constructor.getModifiers(), constructor.toString());
        }
        for (Method method : WormMesh.class.getDeclaredMethods()) {
            add(seen, method.getModifiers(), method.toString());
        }
        Due.is("members that are not private", String.join("; ", FACE), String.join("; ", seen));
    }

    private static void add(Set<String> seen, int modifiers, String text) {
        if (!Modifier.isPrivate(modifiers)) {
            seen.add(text);
        }
    }

    /** Far more than 512 calls: what they answer is free then, but none may throw. */
    private static void oddArguments() {
        int thrown = 0;
        try {
            for (int a : ODD) {
                for (int b : ODD) {
                    tryAll(new WormMesh(a, b, b, a), a, b);
                }
            }
        } catch (RuntimeException e) {
            e.printStackTrace(System.out);
            thrown++;
        }
        Due.is("exceptions", 0, thrown);
    }

    private static void tryAll(WormMesh mesh, int a, int b) {
        for (int c : ODD) {
            mesh.request(a, b, c > 2, c, a);
            mesh.request(b, c, c > 2, a, b);
            mesh.hold(c, b > c);
            mesh.run(c);
            mesh.reply(c, a);
            mesh.memory(c, b);
            mesh.waiting(c);
            mesh.lane(a, b, c);
            mesh.lane(c, a, b);
            mesh.output(a, b, c);
            mesh.output(c, a, b);
            mesh.arrival(c, a);
        }
        for (int i = 0; i < 1000; i++) {
            mesh.request(i % 9, i / 3 % 9, i % 2 == 0, i % 8, i);
            mesh.run(i % 7);
        }
    }
}
