import java.io.DataInputStream;
import java.io.IOException;
import java.io.InputStream;
import java.lang.reflect.Executable;
import java.lang.reflect.Field;
import java.lang.reflect.Modifier;
import java.nio.file.Files;
import java.nio.file.Path;
import java.util.ArrayList;
import java.util.LinkedHashMap;
import java.util.LinkedHashSet;
import java.util.List;
import java.util.Map;
import java.util.Set;
import java.util.regex.Matcher;
import java.util.regex.Pattern;
import java.util.stream.Stream;

/** The source keeps those rules of LANGUAGE.md that a program can see. */
public final class RulesTest {
    private static final String SOURCE = "src/main/java/Windowhouse.java";
    private static final int LONGEST_METHOD = 60;
    private static final int MOST_PARAMETERS = 7;
    private static final int MOST_CLASSES = 12;
    private static final int MOST_FIELDS = 20;
    private static final int DEEPEST = 8;
    private static final Pattern METHOD = Pattern.compile("(?:    |        )\\w[^;=]*?(\\w+)\\(.*");
    /** What rules 4 and 6 let the class call, of that which it may need. */
    private static final Pattern LIBRARY = Pattern.compile("java/lang/Object\\.<init>|java/lang/System\\.arraycopy"
            + "|java/lang/(IllegalState|IllegalArgument|IndexOutOfBounds|Arithmetic|UnsupportedOperation|Runtime)"
            + "Exception\\.<init>|java/util/NoSuchElementException\\.<init>|java/lang/(Math|Integer|Long)"
            + "\\.(compare|max|min|abs|bitCount|floorDiv|floorMod)|java/util/Arrays\\.(copyOf|copyOfRange|fill)");

    private static final Checks checks = new Checks();

    public static void main(String[] args) throws IOException {
        String source = Files.readString(Path.of(SOURCE));
        thereIsOneFile();
        noForbiddenWords(source);
        signsOfTheSource(source);
        for (Class<?> one : classes()) {
            onlyTheAllowedLibrary(one);
            fieldsAndParameters(one);
        }
        methodsAreShort(source);
        callsAreNotDeep(source);
        checks.finish();
    }

    private static List<Class<?>> classes() {
        List<Class<?>> classes = new ArrayList<>(List.of(Windowhouse.class.getDeclaredClasses()));
        classes.add(Windowhouse.class);
        checks.due("few classes", classes.size() <= MOST_CLASSES, true);
        return classes;
    }

    private static void thereIsOneFile() throws IOException {
        try (Stream<Path> files = Files.walk(Path.of("src"))) {
            List<Path> found = files.filter(Files::isRegularFile).toList();
            checks.due("the files of the program", found, List.of(Path.of(SOURCE)));
        }
    }

    private static String codeOf(String source) {
        return source.replaceAll("(?s)/\\*.*?\\*/", " ").replaceAll("//[^\n]*", " ").replaceAll("\"[^\"]*\"", "\"\"");
    }

    private static void noForbiddenWords(String source) {
        String code = codeOf(source);
        for (String word : new String[] {"catch", "try", "finally", "synchronized", "assert", "volatile", "native",
            "package", "var", "instanceof", "Thread", "System.out", "getMessage", "hashCode", "toString"}) {
            checks.due("the source has the word " + word,
                    Pattern.compile("\\b" + Pattern.quote(word) + "\\b").matcher(code).find(), false);
        }
        for (String sign : new String[] {"->", "::", "@", "static {", "\"\" +", "+ \"\""}) {
            checks.due("the source has the sign " + sign, code.contains(sign), false);
        }
        List<String> imports = code.lines().filter(line -> line.startsWith("import ")).toList();
        checks.due("its imports", imports, List.of("import java.util.NoSuchElementException;"));
        Matcher thrown = Pattern.compile("throw\\b[^;]*;").matcher(code);
        while (thrown.find()) {
            boolean plain = thrown.group().matches("throw new \\w+\\((\"\")?\\);");
            checks.due(thrown.group() + " throws a new one with a written text", plain, true);
        }
    }

    private static void signsOfTheSource(String source) {
        checks.due("signs beyond 126", source.chars().filter(sign -> sign > 126).count(), 0L);
    }

    /** Every method and field of another class that the compiled class names, as "java/lang/Math.min". */
    private static void onlyTheAllowedLibrary(Class<?> one) throws IOException {
        for (String named : namedBy(one)) {
            checks.due(one.getName() + " may use " + named, LIBRARY.matcher(named).matches(), true);
        }
    }

    private static Set<String> namedBy(Class<?> one) throws IOException {
        Object[] pool = poolOf(one);
        Set<String> named = new LinkedHashSet<>();
        for (Object entry : pool) {
            // A field's or method's entry: the class that has it, then its name and type.
            if (entry instanceof int[] && ((int[]) entry).length == 2) {
                int[] member = (int[]) entry;
                if (pool[member[0]] instanceof int[] && pool[member[1]] instanceof long[]) {
                    String owner = (String) pool[((int[]) pool[member[0]])[0]];
                    String name = (String) pool[(int) ((long[]) pool[member[1]])[0]];
                    if (!owner.startsWith("Windowhouse")) {
                        named.add(owner + "." + name);
                    }
                }
            }
        }
        checks.due(one.getName() + " names methods of others", named.isEmpty(), false);
        return named;
    }

    /** Texts as they are, classes and such as {text}, members as {class, name and type}, names and types as longs. */
    private static Object[] poolOf(Class<?> one) throws IOException {
        try (InputStream file = one.getResourceAsStream("/" + one.getName() + ".class");
                DataInputStream in = new DataInputStream(file)) {
            in.skipBytes(8);
            Object[] pool = new Object[in.readUnsignedShort()];
            for (int i = 1; i < pool.length; i++) {
                int tag = in.readUnsignedByte();
                pool[i] = entryOf(in, tag);
                checks.due(one.getName() + " has no lambda and no joined text", tag >= 15 && tag <= 18, false);
                // A long or a double takes two places.
                i += tag == 5 || tag == 6 ? 1 : 0;
            }
            return pool;
        }
    }

    private static Object entryOf(DataInputStream in, int tag) throws IOException {
        switch (tag) {
            case 1: return in.readUTF();
            case 3: case 4: return in.readInt();
            case 5: case 6: return in.readLong();
            case 7: case 8: case 16: case 19: case 20: return new int[] {in.readUnsignedShort()};
            case 12: return new long[] {in.readUnsignedShort(), in.readUnsignedShort()};
            case 15: return new byte[] {in.readByte(), in.readByte(), in.readByte()};
            default: return new int[] {in.readUnsignedShort(), in.readUnsignedShort()};
        }
    }

    private static void fieldsAndParameters(Class<?> one) {
        int fields = 0;
        for (Field field : one.getDeclaredFields()) {
            boolean constant = Modifier.isStatic(field.getModifiers());
            fields += constant ? 0 : 1;
            checks.due(field + " changes, and is static", constant && !Modifier.isFinal(field.getModifiers()), false);
        }
        checks.due(one + " has few fields", fields <= MOST_FIELDS, true);
        List<Executable> all = new ArrayList<>(List.of(one.getDeclaredMethods()));
        all.addAll(List.of(one.getDeclaredConstructors()));
        for (Executable method : all) {
            checks.due(method + " has few parameters", method.getParameterCount() <= MOST_PARAMETERS, true);
        }
    }

    /** Each method's lines, by its name; by its look alone: it begins and ends at 4 or 8 spaces, or inside a class. */
    private static Map<String, List<String>> methodsOf(String source) {
        Map<String, List<String>> methods = new LinkedHashMap<>();
        List<String> open = null;
        String indent = "";
        for (String line : codeOf(source).lines().toList()) {
            Matcher head = METHOD.matcher(line);
            if (open == null && head.matches() && !line.contains(" new ")) {
                open = new ArrayList<>();
                indent = line.substring(0, line.length() - line.stripLeading().length());
                methods.put(head.group(1), open);
            }
            if (open != null) {
                open.add(line);
                if (line.equals(indent + "}")) {
                    open = null;
                }
            }
        }
        return methods;
    }

    private static void methodsAreShort(String source) {
        Map<String, List<String>> methods = methodsOf(source);
        int declared = 0;
        for (Class<?> one : classes()) {
            declared += one.getDeclaredMethods().length + one.getDeclaredConstructors().length;
        }
        checks.due("how many methods are seen", methods.size(), declared);
        methods.forEach((name, lines) -> checks.due(name + " is short", lines.size() <= LONGEST_METHOD, true));
    }

    private static void callsAreNotDeep(String source) {
        Map<String, List<String>> methods = methodsOf(source);
        for (String name : methods.keySet()) {
            int depth = depthOf(methods, name, DEEPEST + 1);
            checks.due(name + " stays above " + DEEPEST + " calls", depth <= DEEPEST, true);
        }
    }

    /** How many calls are open at once; no more than allowed are followed, as a recursion would never end. */
    private static int depthOf(Map<String, List<String>> methods, String name, int allowed) {
        int deepest = 0;
        if (allowed > 1) {
            List<String> lines = methods.get(name);
            Matcher call = Pattern.compile("(\\w+)\\(").matcher(String.join("\n", lines.subList(1, lines.size())));
            while (call.find()) {
                if (methods.containsKey(call.group(1))) {
                    deepest = Math.max(deepest, depthOf(methods, call.group(1), allowed - 1));
                }
            }
        }
        return deepest + 1;
    }
}
