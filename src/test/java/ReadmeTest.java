import java.io.File;
import java.io.IOException;
import java.lang.reflect.Method;
import java.nio.charset.StandardCharsets;
import java.nio.file.Files;
import java.nio.file.Path;
import java.util.ArrayList;
import java.util.HashMap;
import java.util.List;
import java.util.Map;
import java.util.TreeSet;
import java.util.regex.Matcher;
import java.util.regex.Pattern;

/** What README.md says is so: the calls it shows are made one behind the other, and answer as it tells them. */
public final class ReadmeTest {
    private static final Path PAGE = Path.of("README.md");
    private static final Path TESTS = Path.of("src/test/java");
    private static final String MADE = "NewsWire news = new NewsWire();";
    /** Perhaps a name that is given, a call with its numbers, and behind it what it answers. */
    private static final Pattern CALL = Pattern.compile(
            "(?:int (?<name>\\w+) = )?news\\.(?<call>\\w+)\\((?<told>[^()]*)\\); +// (?<answer>-?\\d+)(?::.*)?");
    private static final Due DUE = new Due();

    public static void main(String[] args) throws IOException {
        String page = Files.readString(PAGE, StandardCharsets.UTF_8);
        callsShown(page);
        testsNamed(page);
        scriptNamed(page);
        DUE.end();
    }

    private static void callsShown(String page) {
        List<String> lines = blocks(page, "java");
        DUE.so("the calls begin with a new object", !lines.isEmpty() && lines.get(0).equals(MADE));
        NewsWire news = new NewsWire();
        Map<String, Integer> names = new HashMap<>();
        TreeSet<String> shown = new TreeSet<>();
        for (String line : lines) {
            if (line.equals(MADE)) {
                continue;
            }
            Matcher parts = CALL.matcher(line);
            if (!parts.matches()) {
                DUE.so("README.md shows a call: " + line, false);
                continue;
            }
            int answer = call(news, parts.group("call"), parts.group("told"), names);
            DUE.is("README.md: " + line, answer, Integer.parseInt(parts.group("answer")));
            shown.add(parts.group("call"));
            if (parts.group("name") != null) {
                DUE.so("given once: " + line, names.put(parts.group("name"), answer) == null);
            }
        }
        DUE.is("one object is made", lines.stream().filter(MADE::equals).count(), 1);
        DUE.is("every call is shown", shown.toString(), new TreeSet<>(List.of(Calls.NAMES)).toString());
    }

    private static List<String> blocks(String page, String language) {
        List<String> lines = new ArrayList<>();
        Matcher block = Pattern.compile("(?s)```" + language + "\n(.*?)```").matcher(page);
        while (block.find()) {
            block.group(1).lines().filter(line -> !line.isBlank()).forEach(lines::add);
        }
        return lines;
    }

    private static int call(NewsWire news, String name, String told, Map<String, Integer> names) {
        String[] words = told.isBlank() ? new String[0] : told.split(", ");
        int takes = -1;
        for (Method method : NewsWire.class.getMethods()) {
            takes = method.getName().equals(name) ? method.getParameterCount() : takes;
        }
        DUE.is(name + " takes", words.length, takes);
        int[] numbers = new int[4];
        for (int i = 0; i < words.length && i < numbers.length; i++) {
            numbers[i] = number(words[i], names);
        }
        return Calls.call(news, name, numbers[0], numbers[1], numbers[2], numbers[3]);
    }

    private static int number(String word, Map<String, Integer> names) {
        if (word.matches("-?\\d+|0x[0-9a-f]+")) {
            return Integer.decode(word);
        }
        if (word.startsWith("NewsWire.")) {
            return constant(word.substring("NewsWire.".length()));
        }
        DUE.so(word + " was given ahead of its use", names.containsKey(word));
        return names.getOrDefault(word, 0);
    }

    private static int constant(String name) {
        try {
            return NewsWire.class.getField(name).getInt(null);
        } catch (ReflectiveOperationException none) {
            DUE.so(name + " is a constant", false);
            return 0;
        }
    }

    private static void testsNamed(String page) {
        String[] files = TESTS.toFile().list((folder, name) -> name.endsWith(".java"));
        DUE.so("tests are there", files != null && files.length > 0);
        TreeSet<String> there = new TreeSet<>();
        for (String file : files == null ? new String[0] : files) {
            there.add(file.replace(".java", ""));
            DUE.so(file + " is named", page.contains("`" + file.replace(".java", "") + "`"));
        }
        Matcher named = Pattern.compile("`(\\w+Test)`").matcher(page);
        while (named.find()) {
            DUE.so(named.group(1) + " is there", there.contains(named.group(1)));
        }
    }

    private static void scriptNamed(String page) {
        List<String> commands = blocks(page, "sh");
        DUE.so("the script is named", commands.contains(".ci/run"));
        DUE.so("it can be started", new File(".ci/run").canExecute());
    }
}
