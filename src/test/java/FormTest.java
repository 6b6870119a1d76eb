import java.io.IOException;
import java.lang.reflect.Constructor;
import java.lang.reflect.Field;
import java.lang.reflect.Method;
import java.lang.reflect.Modifier;
import java.nio.charset.StandardCharsets;
import java.nio.file.Files;
import java.nio.file.Path;
import java.util.Arrays;
import java.util.List;
import java.util.Map;
import java.util.Set;
import java.util.TreeMap;
import java.util.TreeSet;
import java.util.regex.Matcher;
import java.util.regex.Pattern;

/** The document's face, and those rules of LANGUAGE.md that can be seen from outside or from the words of the file. */
public final class FormTest {
    private static final Path SOURCE = Path.of("src/main/java/NewsWire.java");
    private static final Due DUE = new Due();

    public static void main(String[] args) throws IOException {
        constants();
        methods();
        classesInside();
        String source = Files.readString(SOURCE, StandardCharsets.US_ASCII);
        faceOfDocument(source);
        String code = withoutCommentsAndTexts(source);
        words(code);
        methodLengths(code);
        DUE.end();
    }

    private static void constants() {
        Map<String, Integer> due = Map.of("NONE", -1, "MISSING", -2, "BEYOND", -3, "BELOW", -4, "KIND", -5, "COPY", -6,
                "NO", -7, "FULL", -8);
        int found = 0;
        for (Field field : NewsWire.class.getDeclaredFields()) {
            int how = field.getModifiers();
            if (Modifier.isPrivate(how)) {
                DUE.so("static " + field.getName() + " is final", !Modifier.isStatic(how) || Modifier.isFinal(how));
                continue;
            }
            found++;
            DUE.so(field.getName() + " is of the face", due.containsKey(field.getName()));
            DUE.so(field.getName() + " is a public constant",
                    Modifier.isPublic(how) && Modifier.isStatic(how) && Modifier.isFinal(how));
            try {
                DUE.is(field.getName(), field.getInt(null), due.getOrDefault(field.getName(), 0));
            } catch (IllegalAccessException hidden) {
                DUE.so(field.getName() + " can be read", false);
            }
        }
        DUE.is("constants", found, due.size());
    }

    private static void methods() {
        DUE.so("public and final", Modifier.isPublic(NewsWire.class.getModifiers())
                && Modifier.isFinal(NewsWire.class.getModifiers()));
        Constructor<?>[] made = NewsWire.class.getDeclaredConstructors();
        DUE.so("one public constructor of nothing",
                made.length == 1 && Modifier.isPublic(made[0].getModifiers()) && made[0].getParameterCount() == 0);
        Set<String> open = new TreeSet<>();
        for (Method method : NewsWire.class.getDeclaredMethods()) {
            int how = method.getModifiers();
            if (Modifier.isPublic(how)) {
                open.add(method.getName());
                DUE.so(method.getName() + " answers an int and takes ints", method.getReturnType() == int.class
                        && Arrays.stream(method.getParameterTypes()).allMatch(type -> type == int.class));
            } else {
                DUE.so(method.getName() + " is private", Modifier.isPrivate(how));
                DUE.so(method.getName() + " has no public name", !List.of(Calls.NAMES).contains(method.getName()));
            }
            DUE.so(method.getName() + " takes seven at most", method.getParameterCount() <= 7);
        }
        DUE.so("the calls of the face: " + open, open.equals(new TreeSet<>(List.of(Calls.NAMES))));
    }

    /** Each line of the document's face stands in the file, in its order and under its heading, and no other public one. */
    private static void faceOfDocument(String source) {
        Document document = new Document();
        List<String> due = document.face();
        if (due.isEmpty()) {
            return;
        }
        List<String> open = source.lines().map(String::strip)
                .filter(line -> line.startsWith("public ") && !line.startsWith("public final class"))
                .map(line -> line.replaceAll(" \\{$|;$", "")).toList();
        DUE.is("the face", String.join("; ", open), String.join("; ", due));
        List<String> headings = source.lines().map(String::strip).filter(line -> line.startsWith("// ---- "))
                .map(line -> line.substring(3)).toList();
        DUE.is("the headings", String.join("; ", headings), String.join("; ", document.headings()));
    }

    private static void classesInside() {
        Class<?>[] inside = NewsWire.class.getDeclaredClasses();
        DUE.so("some twelve classes", inside.length <= 11);
        for (Class<?> one : inside) {
            int how = one.getModifiers();
            String name = one.getSimpleName();
            DUE.so(name + " is static and not open", Modifier.isStatic(how) && !Modifier.isPublic(how)
                    && !Modifier.isProtected(how));
            long fields = Arrays.stream(one.getDeclaredFields()).filter(f -> !Modifier.isStatic(f.getModifiers())).count();
            DUE.so(name + " has some twenty fields", fields <= 20);
            for (Method method : one.getDeclaredMethods()) {
                DUE.so(name + "." + method.getName() + " has no public name",
                        !List.of(Calls.NAMES).contains(method.getName()));
            }
        }
    }

    private static String withoutCommentsAndTexts(String source) {
        return source.replaceAll("(?s)/\\*.*?\\*/", "").replaceAll("//[^\n]*", "")
                .replaceAll("\"(\\\\.|[^\"\\\\\n])*\"", "\"\"").replaceAll("'(\\\\.|[^'\\\\])'", "' '");
    }

    private static void words(String code) {
        List<String> refused = List.of("throw", "throws", "try", "catch", "finally", "synchronized", "assert", "import",
                "package", "protected", "var", "yield", "instanceof", "native", "volatile", "transient", "Object",
                "System\\.(?!arraycopy)", "->", "::", "\\bMath\\.\\w*Exact", "equals\\(", "hashCode", "toString");
        for (String word : refused) {
            String pattern = Character.isLetter(word.charAt(0)) && word.matches("\\w+") ? "\\b" + word + "\\b" : word;
            Matcher found = Pattern.compile(pattern).matcher(code);
            DUE.so("no " + word + " in it", !found.find());
        }
        DUE.so("no text is joined by +", !Pattern.compile("\"\"\\s*\\+|\\+\\s*\"\"").matcher(code).find());
    }

    /** Counts the lines of each method: what begins four or eight blanks in with an opening bracket and brace. */
    private static void methodLengths(String code) {
        String[] lines = code.split("\n");
        Map<String, Integer> lengths = new TreeMap<>();
        for (int i = 0; i < lines.length; i++) {
            Matcher head = Pattern.compile("^( {4}| {8})[a-zA-Z].*\\(.*\\) \\{$").matcher(lines[i]);
            if (head.matches() && !lines[i].trim().matches("(if|for|while|switch).*")) {
                int end = i;
                while (end < lines.length && !lines[end].equals(head.group(1) + "}")) {
                    end++;
                }
                lengths.put(lines[i].trim(), end - i + 1);
            }
        }
        DUE.so("methods were found: " + lengths.size(), lengths.size() > 80);
        lengths.forEach((method, length) -> DUE.so(method + " has " + length + " lines", length <= 60));
    }
}
