import java.io.IOException;
import java.lang.reflect.Field;
import java.lang.reflect.Method;
import java.lang.reflect.Modifier;
import java.nio.file.Files;
import java.nio.file.Path;
import java.util.ArrayList;
import java.util.List;
import java.util.Set;
import java.util.TreeSet;
import java.util.regex.Pattern;

/** What can be seen from outside of the rules of LANGUAGE.md, by their numbers. */
public final class LanguageTest {
    /** Words and signs that the program does without: rules 2, 4, 5, 6 and 13. */
    private static final String[] NEVER = {
        "\\bimport\\b", "\\bpackage\\b", "\\bthrow\\b", "\\btry\\b", "\\bcatch\\b", "\\bfinally\\b",
        "\\bsynchronized\\b", "\\bassert\\b", "\\bSystem\\b", "\\bThread\\b", "\\brandom\\b",
        "static \\{", "->", "::", "\\bwhile\\b"};

    public static void main(String[] args) throws IOException {
        words();
        List<Class<?>> classes = new ArrayList<>(List.of(WormMesh.class.getDeclaredClasses()));
        Due.is("rule 11: some twelve classes", true, classes.size() + 1 <= 12);
        for (Class<?> own : classes) {
            int modifiers = own.getModifiers();
            Due.is("rule 1: " + own + " is static", true, Modifier.isStatic(modifiers));
            Due.is("rule 1: " + own + " is public", false, Modifier.isPublic(modifiers));
        }
        classes.add(WormMesh.class);
        names(classes);
        classes.forEach(LanguageTest::fields);
        classes.forEach(LanguageTest::parameters);
        Due.end();
    }

    private static void words() throws IOException {
        String text = Files.readString(Path.of("src/main/java/WormMesh.java"));
        String code = text.replaceAll("(?s)/\\*.*?\\*/", "").replaceAll("//[^\n]*", "");
        for (String word : NEVER) {
            Due.is(word + " in the program", false, Pattern.compile(word).matcher(code).find());
        }
        int longest = 0;
        for (String method : code.split("\n    (    )?\\}\n")) {
            longest = Math.max(longest, method.split("\n").length);
        }
        Due.is("rule 11: methods of some sixty lines, the longest part has " + longest, true,
                longest <= 60);
    }

    /** Rule 1: no private method bears the name of a public one. */
    private static void names(List<Class<?>> classes) {
        Set<String> face = new TreeSet<>();
        for (Method method : WormMesh.class.getDeclaredMethods()) {
            if (Modifier.isPublic(method.getModifiers())) {
                face.add(method.getName());
            }
        }
        for (Class<?> own : classes) {
            for (Method method : own.getDeclaredMethods()) {
                boolean isPublic = Modifier.isPublic(method.getModifiers());
                Due.is("rule 1: the name of " + method, isPublic, face.contains(method.getName()));
            }
        }
    }

    /** Rules 3, 5 and 11: types of the fields, static ones are final, and some twenty at most. */
    private static void fields(Class<?> own) {
        int count = 0;
        for (Field field : own.getDeclaredFields()) {
            Class<?> type = field.getType();
            Class<?> part = type.isArray() ? type.getComponentType() : type;
            boolean isOwn = part.getName().startsWith("WormMesh");
            Due.is("rule 3: type of " + field, true, part.isPrimitive() || isOwn);
            if (Modifier.isStatic(field.getModifiers())) {
                Due.is("rule 5: final " + field, true, Modifier.isFinal(field.getModifiers()));
            } else {
                count++;
            }
        }
        Due.is("rule 11: fields of " + own, true, count <= 20);
    }

    private static void parameters(Class<?> own) {
        for (Method method : own.getDeclaredMethods()) {
            Due.is("rule 11: parameters of " + method, true, method.getParameterCount() <= 7);
        }
    }
}
