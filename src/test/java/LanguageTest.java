import java.nio.charset.StandardCharsets;
import java.nio.file.Files;
import java.nio.file.Paths;
import java.util.List;
import java.util.regex.Matcher;
import java.util.regex.Pattern;

/** What can be seen in the source of the rules that the class keeps to. */
public final class LanguageTest {
    private static final Checks CHECKS = new Checks();

    public static void main(String[] args) throws Exception {
        List<String> lines = Files.readAllLines(Paths.get("src/main/java/Regexloom.java"), StandardCharsets.UTF_8);
        int classes = 0;
        int begin = -1;
        for (int k = 0; k < lines.size(); k++) {
            String line = lines.get(k);
            String where = "line " + (k + 1) + ": " + line;
            String code = line.replaceAll("\"(\\\\.|[^\"\\\\])*\"", "\"\"").replaceAll("//.*", "");
            if (!line.trim().startsWith("*") && !line.trim().startsWith("/**")) {
                plain(where, code);
            }
            if (code.contains("import")) {
                CHECKS.due(where, code, "import java.util.Arrays;");
            }
            classes += code.matches(".*\\bclass\\b.*\\{") ? 1 : 0;
            if (code.matches(" {4}( {4})?(?! )[^=]*\\).*\\{") && !code.matches(" *(if|for|while|switch|\\}).*")) {
                begin = k;
                CHECKS.due("parameters, " + where, code.split(",").length <= 8, true);
            }
            if (begin >= 0 && code.matches(" {4}( {4})?\\}")) {
                CHECKS.due("a short method up to " + where, k - begin < 60, true);
                begin = -1;
            }
        }
        CHECKS.due("classes", classes <= 12, true);
        CHECKS.end("LanguageTest");
    }

    private static void plain(String where, String code) {
        Matcher no = Pattern.compile("->|::|\\b(catch|finally|synchronized|assert|yield|var|volatile|transient|native"
                + "|strictfp|goto|protected|System|Thread|Random|Object|instanceof|while)\\b|[^\\x00-\\x7f]"
                + "|static \\{|\"\" *\\+|\\+ *\"\"|double|float").matcher(code);
        CHECKS.due(where, no.find(), false);
    }
}
