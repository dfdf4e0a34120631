import java.io.IOException;
import java.nio.file.DirectoryStream;
import java.nio.file.Files;
import java.nio.file.Path;
import java.util.regex.Matcher;
import java.util.regex.Pattern;

/** Every word of the document's terms and promises stands in a sentence that some test names as its own. */
public final class SentenceTest {
    private static final Pattern NAMED = Pattern.compile("Checks\\.sentence\\(((?:\\s*\"[^\"]*\"\\s*\\+?)+)\\)");

    public static void main(String[] args) throws IOException {
        String document = Checks.document();
        if (!document.isEmpty()) {
            lookUp(document);
        }
        Checks.finish();
    }

    private static void lookUp(String document) throws IOException {
        boolean[] named = new boolean[document.length()];
        try (DirectoryStream<Path> tests = Files.newDirectoryStream(Path.of("src/test/java"), "*Test.java")) {
            for (Path test : tests) {
                Matcher m = NAMED.matcher(Files.readString(test));
                while (m.find()) {
                    mark(named, document, m.group(1).replaceAll("\"\\s*\\+\\s*\"", "").replaceAll("^\\s*\"|\"\\s*$", ""));
                }
            }
        }
        int from = document.indexOf("## Terms");
        int to = document.indexOf("## Not promised");
        Checks.same("the document has terms and promises", from >= 0 && from < to, true);
        Checks.same("promises", document.substring(from, to).split("## Promise \\d+:").length, 22);
        Checks.same("words that no test names", withoutHeads(unnamed(named, document, from, to)), "");
    }

    private static void mark(boolean[] named, String document, String words) {
        int at = document.indexOf(words);
        Checks.same("the document has <" + words + ">", at >= 0, true);
        for (; at >= 0; at = document.indexOf(words, at + 1)) {
            for (int i = at; i < at + words.length(); i++) {
                named[i] = true;
            }
        }
    }

    private static String unnamed(boolean[] named, String document, int from, int to) {
        StringBuilder rest = new StringBuilder();
        for (int i = from; i < to; i++) {
            rest.append(named[i] ? ' ' : document.charAt(i));
        }
        return rest.toString();
    }

    /** Without titles, the methods' heads, the marks of blocks and what stands between two sentences. */
    private static String withoutHeads(String text) {
        return text.replaceAll("## Terms|## Promise \\d+: \\w[\\w ]*|```text|```|==== \\d\\.", " ")
                .replaceAll("`[^`]*`", " ").replaceAll("[\\s.,:;()]+", " ").trim();
    }
}
