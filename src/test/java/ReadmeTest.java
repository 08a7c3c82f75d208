import java.io.IOException;
import java.lang.reflect.Method;
import java.lang.reflect.Modifier;
import java.nio.file.Files;
import java.nio.file.Path;
import java.util.regex.Matcher;
import java.util.regex.Pattern;

/** README.md: the answers of its example are the program's, and it tells every call of the face. */
public final class ReadmeTest {
    private static final Pattern NEW = Pattern.compile("new WormMesh\\(([^)]*)\\);");
    private static final Pattern CALL = Pattern.compile("mesh\\.(\\w+)\\(([^)]*)\\); *// (-?\\d+)");
    private static final int CALLS_IN_EXAMPLE = 10;

    public static void main(String[] args) throws IOException, ReflectiveOperationException {
        String text = Files.readString(Path.of("README.md"));
        example(text);
        for (Method method : WormMesh.class.getDeclaredMethods()) {
            if (Modifier.isPublic(method.getModifiers())) {
                String row = "| `" + method.getName() + "(";
                Due.is("README.md has the row " + row, true, text.contains(row));
            }
        }
        Due.end();
    }

    private static void example(String text) throws ReflectiveOperationException {
        Matcher made = NEW.matcher(text);
        Due.is("README.md makes an object", true, made.find());
        WormMesh mesh = (WormMesh) WormMesh.class.getConstructors()[0]
                .newInstance(arguments(made.group(1)));
        Matcher call = CALL.matcher(text);
        int calls = 0;
        while (call.find()) {
            Object got = method(call.group(1)).invoke(mesh, arguments(call.group(2)));
            Due.is("README.md: " + call.group(), call.group(3), String.valueOf(got));
            calls++;
        }
        Due.is("calls in the example", CALLS_IN_EXAMPLE, calls);
    }

    private static Method method(String name) {
        for (Method method : WormMesh.class.getMethods()) {
            if (method.getName().equals(name)) {
                return method;
            }
        }
        throw new IllegalStateException("no method " + name);
    }

    private static Object[] arguments(String text) {
        String[] parts = text.split(", ");
        Object[] values = new Object[parts.length];
        for (int i = 0; i < parts.length; i++) {
            boolean isBoolean = parts[i].equals("true") || parts[i].equals("false");
            values[i] = isBoolean ? (Object) Boolean.valueOf(parts[i]) : Integer.valueOf(parts[i]);
        }
        return values;
    }
}
