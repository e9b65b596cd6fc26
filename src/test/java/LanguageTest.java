import java.io.IOException;
import java.nio.file.Files;
import java.nio.file.Path;
import java.util.List;
import java.util.Set;
import java.util.TreeSet;
import java.util.regex.Matcher;
import java.util.regex.Pattern;

/** Those rules of LANGUAGE.md that a look at the source's words can hold it to. Runs from the project's root. */
public final class LanguageTest {
    private static final List<String> FORBIDDEN = List.of("->", "::", "\\btry\\b", "\\bcatch\\b", "\\bfinally\\b",
            "\\bsynchronized\\b", "\\bassert\\b", "Exact\\(", "static \\{", "\\bpackage\\b", "\\bdouble\\b", "\\bfloat\\b",
            "\\bprotected\\b", "\\bString\\.format\\b", "\\bSystem\\.(?!arraycopy)", "\\bThread\\b", "\\bRandom\\b");
    private static final Set<String> LIBRARY = Set.of("Math.min", "Math.max", "Math.floorMod", "Long.bitCount",
            "Arrays.copyOf", "Arrays.fill", "System.arraycopy");

    public static void main(String[] args) throws IOException {
        Due due = new Due();
        String source = Files.readString(Path.of("src/main/java/PartedNet.java"));
        String code = source.replaceAll("(?s)/\\*.*?\\*/", "").replaceAll("//[^\n]*", "");
        for (String word : FORBIDDEN) {
            due.holds("without " + word, !Pattern.compile(word).matcher(code).find());
        }
        Matcher call = Pattern.compile("\\b(Math|Long|Integer|Arrays|System|List|String)\\.\\w+").matcher(code);
        Set<String> calls = new TreeSet<>();
        while (call.find()) {
            calls.add(call.group());
        }
        due.holds("library calls " + calls, LIBRARY.containsAll(calls));
        Matcher thrown = Pattern.compile("\\bthrow\\b(?! new (IllegalArgument|IllegalState|NoSuchElement)Exception\\(\"[^\"]*\"\\);)")
                .matcher(code);
        due.holds("throw new E(\"a written text\") alone", !thrown.find());
        due.holds("plain signs alone", source.chars().allMatch(c -> c == '\n' || c >= 32 && c < 127));
        methods(due, code.split("\n"));
        due.holds("few classes", code.split("\\bclass\\b").length - 1 <= 12);
        due.end();
    }

    private static void methods(Due due, String[] lines) {
        Pattern head = Pattern.compile("^( {4}| {8})(?! )[\\w\\[\\] ]+\\(([^)]*)\\)[\\w ,]*\\{$");
        for (int i = 0; i < lines.length; i++) {
            Matcher matcher = head.matcher(lines[i]);
            if (matcher.find() && !lines[i].matches(" *(if|for|while|switch) .*")) {
                int end = i;
                while (end < lines.length && !lines[end].equals(matcher.group(1) + "}")) {
                    end++;
                }
                due.holds("short: " + lines[i].trim(), end - i <= 60);
                due.holds("few parameters: " + lines[i].trim(), matcher.group(2).split(",").length <= 7);
            }
        }
    }
}
