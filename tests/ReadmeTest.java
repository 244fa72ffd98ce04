import java.io.IOException;
import java.lang.reflect.InvocationTargetException;
import java.lang.reflect.Method;
import java.nio.file.Files;
import java.nio.file.Path;
import java.util.ArrayList;
import java.util.Arrays;
import java.util.Collections;
import java.util.List;
import java.util.TreeSet;
import java.util.regex.Matcher;
import java.util.regex.Pattern;
import java.util.stream.Stream;

/** README.md holds: each answer that it tells, its table of calls, and its list of tests. */
public final class ReadmeTest {
    private static final Pattern CALL = Pattern.compile("house\\.(\\w+)\\(([^)]*)\\);\\s+// ([^:]+)(: .*)?");
    private static final Pattern OF_THE_FACE = Pattern.compile("    public \\w+ (\\w+)\\(([^)]*)\\)(?: throws (.*))?;");
    private static final Pattern CODE = Pattern.compile("`([^`]*)`");

    private static final Checks checks = new Checks();

    public static void main(String[] args) throws IOException {
        List<String> readme = Files.readAllLines(Path.of("README.md"));
        theAnswersAreAsTold(readme);
        theTableTellsTheFace(readme);
        theTestsAreListed(readme);
        checks.finish();
    }

    private static void theAnswersAreAsTold(List<String> readme) {
        Windowhouse house = null;
        boolean inCode = false;
        int calls = 0;
        for (String line : readme) {
            if (line.startsWith("```")) {
                inCode = line.equals("```java");
            } else if (inCode && line.equals("Windowhouse house = new Windowhouse();")) {
                house = new Windowhouse();
            } else if (inCode && !line.isBlank()) {
                checkCall(house, line);
                calls++;
            }
        }
        checks.due("there are calls with answers", calls > 0, true);
    }

    private static void checkCall(Windowhouse house, String line) {
        Matcher call = CALL.matcher(line);
        if (!call.matches()) {
            checks.due(line, "no call with an answer", "a call with its answer");
            return;
        }
        checks.due(line, answerOf(house, call.group(1), call.group(2)), call.group(3));
    }

    private static String answerOf(Windowhouse house, String name, String arguments) {
        for (Method method : Windowhouse.class.getMethods()) {
            if (method.getName().equals(name)) {
                try {
                    return String.valueOf(method.invoke(house, valuesOf(method.getParameterTypes(), arguments)));
                } catch (InvocationTargetException e) {
                    return "throws " + e.getCause().getClass().getSimpleName();
                } catch (IllegalAccessException e) {
                    return "is not of the face";
                }
            }
        }
        return "is no method";
    }

    private static Object[] valuesOf(Class<?>[] types, String arguments) {
        String[] texts = arguments.isEmpty() ? new String[0] : arguments.split(", ");
        Object[] values = new Object[texts.length];
        for (int i = 0; i < texts.length; i++) {
            if (types[i] == char.class) {
                values[i] = texts[i].charAt(1);
            } else if (types[i] == long.class) {
                values[i] = Long.valueOf(texts[i]);
            } else {
                values[i] = Integer.valueOf(texts[i]);
            }
        }
        return values;
    }

    /** The table has the methods of the document in their order, each with its parameters and its exceptions. */
    private static void theTableTellsTheFace(List<String> readme) throws IOException {
        List<String> wanted = new ArrayList<>();
        for (String line : Files.readAllLines(Path.of("../shared/DOC.md"))) {
            Matcher method = OF_THE_FACE.matcher(line);
            if (method.matches()) {
                wanted.add(method.group(1) + "(" + method.group(2).replaceAll("\\w+ (\\w+)", "$1") + ") throws "
                        + withoutBounds(method.group(3)));
            }
        }
        List<String> found = new ArrayList<>();
        for (String line : readme) {
            if (line.matches("\\| `\\w+\\(.*")) {
                String[] cells = line.split("\\|");
                found.add(String.join("", codesOf(cells[1])) + " throws " + codesOf(cells[3]));
            }
        }
        checks.due("how many methods there are", wanted.size(), 39);
        checks.due("the table of calls", String.join("\n", found), String.join("\n", wanted));
    }

    /** What every call of a window or a row throws is told once, ahead of the table. */
    private static List<String> withoutBounds(String thrown) {
        List<String> names = new ArrayList<>(thrown == null ? List.of() : Arrays.asList(thrown.split(", ")));
        names.removeAll(Collections.singleton("IndexOutOfBoundsException"));
        return names;
    }

    private static List<String> codesOf(String cell) {
        List<String> codes = new ArrayList<>();
        Matcher code = CODE.matcher(cell);
        while (code.find()) {
            codes.add(code.group(1));
        }
        return codes;
    }

    private static void theTestsAreListed(List<String> readme) throws IOException {
        TreeSet<String> listed = new TreeSet<>();
        for (String line : readme) {
            if (line.matches("\\| `\\w+Test`.*")) {
                listed.addAll(codesOf(line.split("\\|")[1]));
            }
        }
        TreeSet<String> there = new TreeSet<>();
        try (Stream<Path> files = Files.list(Path.of("tests"))) {
            files.map(file -> file.getFileName().toString()).filter(name -> name.endsWith("Test.java"))
                    .forEach(name -> there.add(name.replace(".java", "")));
        }
        checks.due("the list of tests", listed, there);
    }
}
