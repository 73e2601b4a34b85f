import java.lang.reflect.Method;
import java.lang.reflect.Modifier;
import java.nio.file.Files;
import java.nio.file.Path;
import java.util.ArrayList;
import java.util.HashMap;
import java.util.List;
import java.util.Map;
import java.util.TreeSet;
import java.util.regex.Matcher;
import java.util.regex.Pattern;
import java.util.stream.Stream;

/** README.md is so: its examples are run line by line, and its values, calls and tests are those that there are. */
public final class ReadmeTest {
    private static final Pattern EXAMPLE =
        Pattern.compile("(?:int (\\w+) = )?x\\.(\\w+)\\((.*)\\);\\s+// (-?\\w+)(?::.*)?");
    private static final Pattern VALUE = Pattern.compile("`([A-Z]+)`(?: \\|| \\() ?(-\\d+)");
    private static final Pattern CALL = Pattern.compile("- `(\\w+)\\(([^)]*)\\)`: .*");
    private static final Pattern TEST = Pattern.compile("`(\\w+Test)`");

    private static final List<String> CONSTANTS =
        List.of("BAD", "NO", "FULL", "NONE", "NOTHING", "KIND", "INDEX", "SIZE");

    private static int wrong = 0;
    private static int examples = 0;

    private static void wrong(String what) {
        wrong++;
        System.out.println("README.md: " + what);
    }

    public static void main(String[] args) throws Exception {
        List<String> lines = Files.readAllLines(Path.of("README.md"));
        String page = String.join("\n", lines);
        examples(lines);
        values(page);
        calls(lines);
        tests(page);
        if (examples < 30) {
            wrong("has only " + examples + " examples");
        }
        System.out.println(wrong == 0 ? "README.md is so" : wrong + " things are not so");
        if (wrong != 0) {
            System.exit(1);
        }
    }

    private static void examples(List<String> lines) throws Exception {
        FineSlot x = null;
        Map<String, Long> names = new HashMap<>();
        boolean inside = false;
        for (String line : lines) {
            if (line.startsWith("```")) {
                inside = line.equals("```java");
            } else if (inside && line.equals("FineSlot x = new FineSlot();")) {
                x = new FineSlot();
                names.clear();
            } else if (inside) {
                example(x, names, line);
            }
        }
    }

    private static void example(FineSlot x, Map<String, Long> names, String line) throws Exception {
        Matcher m = EXAMPLE.matcher(line);
        if (!m.matches()) {
            wrong("an example without an answer: " + line);
            return;
        }
        examples++;
        Method method = method(m.group(2));
        if (method == null) {
            wrong("there is no such call: " + line);
            return;
        }
        String[] told = m.group(3).isEmpty() ? new String[0] : m.group(3).split(", ");
        Object[] with = new Object[told.length];
        for (int i = 0; i < told.length; i++) {
            with[i] = (int) number(names, told[i]);
        }
        long got = ((Number) method.invoke(x, with)).longValue();
        if (m.group(1) != null) {
            names.put(m.group(1), got);
        }
        if (got != number(names, m.group(4))) {
            wrong(line + " answered " + got);
        }
    }

    private static long number(Map<String, Long> names, String told) throws Exception {
        if (names.containsKey(told)) {
            return names.get(told);
        }
        String plain = told.replace("FineSlot.", "");
        return CONSTANTS.contains(plain) ? FineSlot.class.getField(plain).getInt(null) : Long.decode(plain);
    }

    private static Method method(String name) {
        return Stream.of(FineSlot.class.getDeclaredMethods())
            .filter(m -> Modifier.isPublic(m.getModifiers()) && m.getName().equals(name)).findFirst().orElse(null);
    }

    private static void values(String page) throws Exception {
        TreeSet<String> told = new TreeSet<>();
        Matcher m = VALUE.matcher(page);
        while (m.find()) {
            told.add(m.group(1));
            if (!CONSTANTS.contains(m.group(1)) || number(Map.of(), m.group(1)) != Long.parseLong(m.group(2))) {
                wrong("not so: " + m.group());
            }
        }
        same("the values told", told, new TreeSet<>(CONSTANTS));
    }

    private static void calls(List<String> lines) {
        List<String> told = new ArrayList<>();
        for (String line : lines) {
            Matcher m = CALL.matcher(line);
            if (m.matches()) {
                told.add(m.group(1) + " " + (m.group(2).isEmpty() ? 0 : m.group(2).split(", ").length));
            }
        }
        TreeSet<String> due = new TreeSet<>();
        for (Method m : FineSlot.class.getDeclaredMethods()) {
            if (Modifier.isPublic(m.getModifiers())) {
                due.add(m.getName() + " " + m.getParameterCount());
            }
        }
        same("the calls told", new TreeSet<>(told), due);
        if (told.size() != due.size()) {
            wrong("tells a call twice");
        }
    }

    private static void tests(String page) throws Exception {
        TreeSet<String> told = new TreeSet<>();
        Matcher m = TEST.matcher(page);
        while (m.find()) {
            told.add(m.group(1));
        }
        TreeSet<String> due = new TreeSet<>();
        try (Stream<Path> files = Files.list(Path.of("src/test/java"))) {
            files.forEach(f -> due.add(f.getFileName().toString().replace(".java", "")));
        }
        same("the tests told", told, due);
    }

    private static void same(String what, TreeSet<String> told, TreeSet<String> due) {
        if (!told.equals(due)) {
            wrong(what + " are " + told + ", due are " + due);
        }
    }
}
