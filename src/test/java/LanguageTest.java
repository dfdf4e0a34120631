import java.io.IOException;
import java.nio.file.Files;
import java.nio.file.Path;
import java.util.List;
import java.util.regex.Matcher;
import java.util.regex.Pattern;

/** The rules of LANGUAGE.md that can be seen in the source's text; run from the project's folder. */
public final class LanguageTest {
    public static void main(String[] args) throws IOException {
        List<String> lines = Files.readAllLines(Path.of("src/main/java/SungWords.java"));
        String source = withoutComments(String.join("\n", lines));
        for (String word : new String[] {"->", "::", "Exact(", "catch", "finally", "synchronized", "assert",
            "instanceof", "package", "protected", "static {", "hashCode", "toString", "equals", "double", "float",
            "System.", "Thread", "Random", "extends", "super"}) {
            Checks.same("<" + word + "> stands in the class", source.contains(word), false);
        }
        Checks.same("imports", count(source, "\\bimport\\b"), 1);
        Checks.same("other throws", count(source, "throw new (?!(NoSuchElement|IndexOutOfBounds)Exception\\(\\))"), 0);
        Checks.same("classes", count(source, "\\bclass\\b") <= 12, true);
        Checks.same("static fields that are not final", count(source, "static (?!final)[a-z]+(\\[\\])* \\w+( =|;)"), 0);
        Checks.same("loops without a bound in their head", count(source, "while \\(true\\)|for \\(;;\\)"), 0);
        methods(lines);
        Checks.finish();
    }

    private static String withoutComments(String source) {
        return source.replaceAll("(?s)/\\*.*?\\*/", "").replaceAll("//[^\n]*", "");
    }

    private static int count(String source, String expression) {
        Matcher m = Pattern.compile(expression).matcher(source);
        int found = 0;
        while (m.find()) {
            found++;
        }
        return found;
    }

    /** Methods of at most sixty lines and seven parameters, by their indents. */
    private static void methods(List<String> lines) {
        Pattern head = Pattern.compile("( +)[\\w\\[\\] ]+\\(([^)]*)\\)[\\w, ]*\\{");
        for (int i = 0; i < lines.size(); i++) {
            Matcher m = head.matcher(lines.get(i));
            if (m.matches() && !lines.get(i).matches(" +(if|for|while|switch|\\}).*")) {
                int end = i;
                while (!lines.get(end).equals(m.group(1) + "}")) {
                    end++;
                }
                Checks.same("lines of " + lines.get(i), end - i < 60, true);
                Checks.same("parameters of " + lines.get(i), m.group(2).split(",").length <= 7, true);
            }
        }
    }
}
