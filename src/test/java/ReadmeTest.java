import java.io.IOException;
import java.lang.reflect.Method;
import java.lang.reflect.Modifier;
import java.nio.file.Files;
import java.nio.file.Path;
import java.util.List;
import java.util.Map;
import java.util.Set;
import java.util.TreeSet;
import java.util.regex.Matcher;
import java.util.regex.Pattern;

/** The examples of README.md: every call there answers what stands behind it, and every call of the face is shown. */
public final class ReadmeTest {
    private static final Map<String, Integer> WORDS = Map.of(
        "BAD", ErasingMonks.BAD, "NOT", ErasingMonks.NOT, "FULL", ErasingMonks.FULL, "NONE", ErasingMonks.NONE,
        "NULL", ErasingMonks.NULL, "CAST", ErasingMonks.CAST, "INDEX", ErasingMonks.INDEX, "SIZE", ErasingMonks.SIZE);
    private static final Pattern CALL = Pattern.compile("x\\.(\\w+)\\(([^)]*)\\); +// (-?\\w+)(:.*)?");
    private static final Pattern TYPED = Pattern.compile(
        "for \\(char letter : \"([^\"]*)\"\\.toCharArray\\(\\)\\) x\\.type\\(letter\\);");
    private static final Pattern ROW = Pattern.compile("\\| `([A-Z]+)` \\| (-\\d+) \\|.*");

    private static final Set<String> SHOWN = new TreeSet<>();
    private static ErasingMonks x;

    public static void main(String[] args) throws IOException {
        List<String> page = Files.readAllLines(Path.of("README.md"));
        boolean inside = false;
        for (String line : page) {
            if (line.startsWith("```")) {
                inside = line.equals("```java");
            } else if (inside) {
                oneLine(line);
            }
        }
        everyCallIsShown();
        everyWordIsTold(page);
        everyTestIsTold(page);
        Due.end();
    }

    private static void oneLine(String line) {
        Matcher call = CALL.matcher(line);
        Matcher typed = TYPED.matcher(line);
        if (line.equals("ErasingMonks x = new ErasingMonks();")) {
            x = new ErasingMonks();
        } else if (typed.matches()) {
            typed.group(1).chars().forEach(letter -> x.type(letter));
            SHOWN.add("type");
        } else if (call.matches()) {
            SHOWN.add(call.group(1));
            Due.due(line, Ask.ask(x, call.group(1), numbers(call.group(2))), number(call.group(3)));
        } else {
            Due.holds("README.md can be read: " + line, false);
        }
    }

    private static long[] numbers(String words) {
        if (words.isBlank()) {
            return new long[0];
        }
        String[] parts = words.split(",");
        long[] numbers = new long[parts.length];
        for (int i = 0; i < parts.length; i++) {
            numbers[i] = Long.parseLong(parts[i].trim().replace("L", ""));
        }
        return numbers;
    }

    private static long number(String word) {
        return WORDS.containsKey(word) ? WORDS.get(word) : Long.parseLong(word);
    }

    private static void everyCallIsShown() {
        for (Method method : ErasingMonks.class.getDeclaredMethods()) {
            if (Modifier.isPublic(method.getModifiers())) {
                Due.holds("README.md shows " + method.getName(), SHOWN.contains(method.getName()));
            }
        }
    }

    private static void everyWordIsTold(List<String> page) {
        int told = 0;
        for (String line : page) {
            Matcher row = ROW.matcher(line);
            if (row.matches()) {
                Due.due(line, Integer.parseInt(row.group(2)), number(row.group(1)));
                told++;
            }
        }
        Due.due("words that README.md tells", told, WORDS.size());
    }

    private static void everyTestIsTold(List<String> page) throws IOException {
        String text = String.join("\n", page);
        try (var files = Files.list(Path.of("src/test/java"))) {
            files.map(file -> file.getFileName().toString()).filter(name -> name.endsWith("Test.java")).sorted()
                .map(name -> name.substring(0, name.length() - ".java".length()))
                .forEach(name -> Due.holds("README.md tells of " + name, text.contains("`" + name + "`")));
        }
    }
}
