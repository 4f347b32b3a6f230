import java.io.File;
import java.lang.reflect.Method;
import java.lang.reflect.Modifier;
import java.net.URL;
import java.net.URLClassLoader;
import java.nio.charset.StandardCharsets;
import java.nio.file.Files;
import java.nio.file.Path;
import java.nio.file.Paths;
import java.util.ArrayList;
import java.util.List;
import java.util.regex.Matcher;
import java.util.regex.Pattern;
import javax.tools.ToolProvider;

/** Runs the lines of README.md, and asks that it names all of the face. */
public final class ReadmeTest {
    private static final Checks CHECKS = new Checks();
    private static final Pattern BLOCK = Pattern.compile("```java\n(.*?)```", Pattern.DOTALL);
    private static final Pattern ANSWERED = Pattern.compile("(x\\..*\\));\\s*// (?:throws )?([^:]+)(?::.*)?");

    public static void main(String[] args) throws Exception {
        String page = new String(Files.readAllBytes(Paths.get("README.md")), StandardCharsets.UTF_8);
        namesTheFace(page);
        run(sourceOf(page));
        CHECKS.end("ReadmeTest");
    }

    private static void namesTheFace(String page) {
        StringBuilder lines = new StringBuilder();
        Matcher block = BLOCK.matcher(page);
        while (block.find()) {
            lines.append(block.group(1));
        }
        for (Method method : Regexloom.class.getDeclaredMethods()) {
            if (Modifier.isPublic(method.getModifiers())) {
                CHECKS.due("a line calls " + method.getName(), lines.indexOf("x." + method.getName() + "(") >= 0, true);
            }
        }
        for (String name : new String[] {"NONE` (-1)", "GIVEN_UP` (-2)", "IndexOutOfBoundsException`",
            "IllegalArgumentException`", "IllegalStateException`", ".ci/run"}) {
            CHECKS.due("told: " + name, page.contains(name), true);
        }
    }

    /** A class that takes the blocks: a function as it is, other blocks as functions of their own. */
    private static String sourceOf(String page) {
        StringBuilder source = new StringBuilder("import java.util.List;\nimport java.util.function.Supplier;\n"
                + "public final class ReadmeLines {\n"
                + "static void note(List<String[]> all, String told, Supplier<Object> call, String due) {\n"
                + "try { all.add(new String[] {told, String.valueOf(call.get()), due}); }\n"
                + "catch (RuntimeException e) { all.add(new String[] {told, e.getClass().getSimpleName(), due}); }\n"
                + "}\n");
        StringBuilder calls = new StringBuilder();
        Matcher block = BLOCK.matcher(page);
        for (int k = 0; block.find(); k++) {
            if (block.group(1).startsWith("static ")) {
                source.append(block.group(1));
                continue;
            }
            source.append("static void block").append(k).append("(List<String[]> all) {\n");
            for (String line : block.group(1).split("\n")) {
                source.append(checked(line)).append('\n');
            }
            source.append("}\n");
            calls.append("block").append(k).append("(all);\n");
        }
        return source + "public static void run(List<String[]> all) {\n" + calls + "}\n}\n";
    }

    private static String checked(String line) {
        Matcher answered = ANSWERED.matcher(line);
        if (!answered.matches()) {
            return line;
        }
        String due = answered.group(2).trim().replace("NONE", "-1").replace("GIVEN_UP", "-2");
        String told = answered.group(1).replace("\\", "\\\\").replace("\"", "\\\"");
        return "note(all, \"" + told + "\", () -> " + answered.group(1) + ", \"" + due + "\");";
    }

    private static void run(String source) throws Exception {
        Path made = Files.createTempDirectory("readme");
        Path file = made.resolve("ReadmeLines.java");
        Files.write(file, source.getBytes(StandardCharsets.UTF_8));
        int failed = ToolProvider.getSystemJavaCompiler().run(null, null, null,
                "-cp", System.getProperty("java.class.path"), "-d", made.toString(), file.toString());
        CHECKS.due("the lines compile", failed, 0);
        if (failed == 0) {
            URL[] where = {made.toUri().toURL()};
            try (URLClassLoader loader = new URLClassLoader(where, ReadmeTest.class.getClassLoader())) {
                List<String[]> all = new ArrayList<>();
                loader.loadClass("ReadmeLines").getMethod("run", List.class).invoke(null, all);
                for (String[] one : all) {
                    CHECKS.due("README: " + one[0], one[1], one[2]);
                }
                CHECKS.due("lines with an answer are many", all.size() > 50, true);
            }
        }
        for (File one : made.toFile().listFiles()) {
            one.delete();
        }
        made.toFile().delete();
    }
}
