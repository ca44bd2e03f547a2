import java.io.IOException;
import java.nio.charset.StandardCharsets;
import java.nio.file.Files;
import java.nio.file.Path;
import java.util.List;
import java.util.regex.Matcher;
import java.util.regex.Pattern;

/** The rules of LANGUAGE.md that a reading of the source can tell. */
public final class LanguageTest {
    private static final String[] FORBIDDEN = {
        "\\bimport\\b", "\\bpackage\\b", "->", "::", "\\bfinally\\b", "\\bsynchronized\\b", "\\bassert\\b",
        "\\bcatch\\b", "\\bthrow\\b", "\\bthrows\\b", "\\btry\\b", "\\w+Exact\\b", "\\bdouble\\b", "\\bfloat\\b",
        "\\bstatic\\s*\\{", "\\bhashCode\\b", "\\bequals\\b", "\\btoString\\b", "\\bThread\\b",
        "\\bRandom\\b", "\\brandom\\b", "\\bcurrentTimeMillis\\b", "\\bnanoTime\\b", "\\bprotected\\b", "\\bvar\\b",
        "while \\(true\\)", "for \\(;;\\)", "\\bObject\\b", "\\bArrays\\b", "\\bStringBuilder\\b"};
    private static final Pattern METHOD = Pattern.compile(
        "^ +(?:public |private |static |final )*[\\w\\[\\]]+ (\\w+)\\(([^)]*)\\) \\{$");

    public static void main(String[] args) throws IOException {
        Path source = Path.of("src/main/java/ErasingMonks.java");
        String text = Files.readString(source, StandardCharsets.UTF_8);
        for (int i = 0; i < text.length(); i++) {
            char c = text.charAt(i);
            Due.holds("letter " + (int) c + " at " + i, c == '\n' || c >= 32 && c < 127);
        }
        String code = text.replaceAll("(?s)/\\*.*?\\*/", "").replaceAll("//[^\n]*", "")
            .replaceAll("\"[^\"\n]*\"", "\"\"");
        for (String pattern : FORBIDDEN) {
            Matcher found = Pattern.compile(pattern).matcher(code);
            Due.holds("no " + pattern, !found.find());
        }
        Matcher library = Pattern.compile("\\b(Math|Integer|Long|System|Character|Arrays|List)\\.(\\w+)").matcher(code);
        while (library.find()) {
            String name = library.group();
            Due.holds("the library has " + name, List.of("Math.max", "Math.min", "Integer.bitCount",
                "System.arraycopy").contains(name));
        }
        Due.holds("no array of arrays of objects", !Pattern.compile("[A-Z]\\w+\\[\\]\\[\\]").matcher(code).find());
        methods(text.split("\n"));
        Due.end();
    }

    private static void methods(String[] lines) {
        int found = 0;
        for (int i = 0; i < lines.length; i++) {
            Matcher method = METHOD.matcher(lines[i]);
            if (!method.matches() || lines[i].matches(" +(return|else|new|if|for|while|switch)\\b.*")) {
                continue;
            }
            found++;
            String indent = lines[i].replaceAll("\\S.*", "");
            int end = i;
            while (!lines[end].equals(indent + "}")) {
                end++;
            }
            Due.holds(method.group(1) + " is short: " + (end - i + 1), end - i + 1 <= 60);
            String params = method.group(2);
            int many = params.isEmpty() ? 0 : params.split(",").length;
            Due.holds(method.group(1) + " takes few: " + many, many <= 7);
        }
        Due.holds("methods were found: " + found, found > 80);
        for (String line : lines) {
            Due.holds("a line is not long: " + line, line.length() <= 120);
        }
    }
}
