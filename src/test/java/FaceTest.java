import java.io.IOException;
import java.lang.reflect.Constructor;
import java.lang.reflect.Field;
import java.lang.reflect.Method;
import java.lang.reflect.Modifier;
import java.nio.file.Files;
import java.nio.file.Path;
import java.util.ArrayList;
import java.util.List;
import java.util.TreeSet;

/** The whole face of the document, and nothing beside it. */
public final class FaceTest {
    private static final Path DOCUMENT = Path.of("..", "shared", "DOC.md");

    private FaceTest() {
    }

    public static void main(String[] args) throws IOException {
        Checks.due("public members", documentedFace(), compiledFace());
        Checks.due("the class is public and final", true,
                Modifier.isPublic(Releasetrain.class.getModifiers())
                        && Modifier.isFinal(Releasetrain.class.getModifiers()));
        Checks.due("members that are neither public nor private", List.of(), strayMembers());
        Checks.finish("FaceTest");
    }

    private static TreeSet<String> documentedFace() throws IOException {
        TreeSet<String> face = new TreeSet<>();
        for (String line : Files.readAllLines(DOCUMENT)) {
            if (line.startsWith("    public ")) {
                String bare = line.trim().replace(";", "").replaceAll("\\b(int|char) \\w+(?=[,)])", "$1");
                face.add(bare);
            }
        }
        return face;
    }

    private static TreeSet<String> compiledFace() {
        TreeSet<String> face = new TreeSet<>();
        for (Constructor<?> constructor : Releasetrain.class.getConstructors()) {
            face.add("public Releasetrain" + listOf(constructor.getParameterTypes(), "(", ")")
                    + throwsOf(constructor.getExceptionTypes()));
        }
        for (Method method : Releasetrain.class.getDeclaredMethods()) {
            if (Modifier.isPublic(method.getModifiers())) {
                face.add((Modifier.isStatic(method.getModifiers()) ? "public static " : "public ")
                        + method.getReturnType().getSimpleName() + " " + method.getName()
                        + listOf(method.getParameterTypes(), "(", ")") + throwsOf(method.getExceptionTypes()));
            }
        }
        for (Field field : Releasetrain.class.getFields()) {
            face.add("public " + field.getName());
        }
        return face;
    }

    private static String throwsOf(Class<?>[] types) {
        return types.length == 0 ? "" : listOf(types, " throws ", "");
    }

    private static String listOf(Class<?>[] types, String before, String behind) {
        List<String> names = new ArrayList<>();
        for (Class<?> type : types) {
            names.add(type.getSimpleName());
        }
        return before + String.join(", ", names) + behind;
    }

    private static List<String> strayMembers() {
        List<String> stray = new ArrayList<>();
        for (Method method : Releasetrain.class.getDeclaredMethods()) {
            addIfStray(stray, method.getName(), method.getModifiers());
        }
        for (Field field : Releasetrain.class.getDeclaredFields()) {
            addIfStray(stray, field.getName(), field.getModifiers());
        }
        for (Constructor<?> constructor : Releasetrain.class.getDeclaredConstructors()) {
            addIfStray(stray, "a constructor", constructor.getModifiers());
        }
        return stray;
    }

    private static void addIfStray(List<String> stray, String name, int modifiers) {
        if (!Modifier.isPublic(modifiers) && !Modifier.isPrivate(modifiers)) {
            stray.add(name);
        }
    }
}
