import java.io.IOException;
import java.lang.reflect.Constructor;
import java.lang.reflect.Field;
import java.lang.reflect.Method;
import java.lang.reflect.Modifier;
import java.nio.file.Files;
import java.nio.file.Path;
import java.util.ArrayList;
import java.util.Arrays;
import java.util.List;
import java.util.TreeSet;

/** The face is the document's, whole and alone. */
public final class FaceTest {
    private static final Checks checks = new Checks();

    public static void main(String[] args) throws IOException {
        theFaceIsTheDocuments();
        nothingElseIsSeen();
        classesInsideAreHidden();
        checks.finish();
    }

    private static void theFaceIsTheDocuments() throws IOException {
        TreeSet<String> wanted = new TreeSet<>();
        for (String line : Files.readAllLines(Path.of("../shared/DOC.md"))) {
            if (line.startsWith("    public ") && line.endsWith(";")) {
                wanted.add(withoutNames(line.trim()));
            }
        }
        TreeSet<String> found = new TreeSet<>();
        for (Constructor<?> made : Windowhouse.class.getConstructors()) {
            found.add(made.toGenericString().trim());
        }
        for (Method method : Windowhouse.class.getDeclaredMethods()) {
            if (Modifier.isPublic(method.getModifiers())) {
                found.add(method.toGenericString().replace("Windowhouse.", ""));
            }
        }
        checks.due("how many there are", wanted.size(), 40);
        checks.due("the face", String.join("\n", found), String.join("\n", wanted));
    }

    /** "public int make(int row, int length) throws A, B;" as reflection writes it. */
    private static String withoutNames(String line) {
        int open = line.indexOf('(');
        int close = line.indexOf(')');
        List<String> types = new ArrayList<>();
        for (String parameter : line.substring(open + 1, close).split(", ")) {
            types.add(parameter.split(" ")[0]);
        }
        String thrown = line.substring(close + 1, line.length() - 1).replace(" throws ", "");
        List<String> names = new ArrayList<>();
        for (String name : thrown.split(", ")) {
            names.add((name.equals("NoSuchElementException") ? "java.util." : "java.lang.") + name);
        }
        return line.substring(0, open) + "(" + String.join(",", types) + ")"
                + (thrown.isEmpty() ? "" : " throws " + String.join(",", names));
    }

    private static void nothingElseIsSeen() {
        checks.due("the class", Modifier.toString(Windowhouse.class.getModifiers()), "public final");
        checks.due("what it extends", Windowhouse.class.getSuperclass(), Object.class);
        checks.due("what it implements", Windowhouse.class.getInterfaces().length, 0);
        checks.due("how many constructors it has", Windowhouse.class.getDeclaredConstructors().length, 1);
        TreeSet<String> face = new TreeSet<>();
        for (Method method : Windowhouse.class.getDeclaredMethods()) {
            if (Modifier.isPublic(method.getModifiers())) {
                face.add(method.getName());
            }
        }
        for (Method method : Windowhouse.class.getDeclaredMethods()) {
            if (!Modifier.isPublic(method.getModifiers())) {
                checks.due(method + " is private", Modifier.isPrivate(method.getModifiers()), true);
                checks.due(method + " has a name of its own", face.contains(method.getName()), false);
            }
        }
        for (Field field : Windowhouse.class.getDeclaredFields()) {
            checks.due(field + " is private", Modifier.isPrivate(field.getModifiers()), true);
            checks.due(field + " is final", Modifier.isFinal(field.getModifiers()), true);
        }
    }

    private static void classesInsideAreHidden() {
        for (Class<?> inside : Windowhouse.class.getDeclaredClasses()) {
            int modifiers = inside.getModifiers();
            checks.due(inside + " is static", Modifier.isStatic(modifiers), true);
            checks.due(inside + " is hidden", Modifier.isPublic(modifiers) || Modifier.isProtected(modifiers), false);
            for (Method method : inside.getDeclaredMethods()) {
                checks.due(method + " has a name of its own", isOfTheFace(method.getName()), false);
            }
        }
    }

    private static boolean isOfTheFace(String name) {
        return Arrays.stream(Windowhouse.class.getMethods()).anyMatch(
                method -> method.getDeclaringClass() == Windowhouse.class && method.getName().equals(name));
    }
}
