import java.io.File;
import java.io.IOException;
import java.lang.reflect.Method;
import java.lang.reflect.Modifier;
import java.net.URL;
import java.net.URLClassLoader;
import java.nio.file.Files;
import java.nio.file.Path;
import java.util.ArrayList;
import java.util.List;
import java.util.regex.Matcher;
import java.util.regex.Pattern;
import javax.tools.JavaCompiler;
import javax.tools.ToolProvider;

/** README.md: its Java compiles and answers what stands behind each call; it names calls and tests. */
public final class ReadmeTest {
    private static final Pattern BLOCK = Pattern.compile("(?s)```java\n(.*?)```");
    private static final Pattern ANSWERED = Pattern.compile("(x\\.\\w+\\(.*\\)); +// (-?\\d+).*");

    public static void main(String[] args) throws Exception {
        String page = Files.readString(Path.of("README.md"));
        example(page);
        calls(page);
        tests(page);
        constants(page);
        Check.close();
    }

    private static void example(String page) throws Exception {
        StringBuilder helpers = new StringBuilder();
        StringBuilder body = new StringBuilder();
        List<String> calls = new ArrayList<>();
        List<Integer> want = new ArrayList<>();
        Matcher block = BLOCK.matcher(page);
        while (block.find()) {
            if (block.group(1).startsWith("static ")) {
                helpers.append(block.group(1));
                continue;
            }
            for (String line : block.group(1).split("\n")) {
                Matcher call = ANSWERED.matcher(line);
                if (call.matches()) {
                    calls.add(call.group(1));
                    want.add(Integer.valueOf(call.group(2)));
                    body.append("got.add(").append(call.group(1)).append(");\n");
                } else {
                    Check.isTrue(line + " tells what it answers", !line.startsWith("x."));
                    body.append(line).append('\n');
                }
            }
        }
        List<?> got = answers(helpers.toString(), body.toString());
        Check.isTrue("the example has calls", calls.size() > 20);
        Check.due("so many answers", got.size(), want.size());
        for (int k = 0; k < got.size() && k < want.size(); k++) {
            Check.due(calls.get(k), ((Number) got.get(k)).longValue(), want.get(k));
        }
    }

    /** What the calls of the page answer when it is compiled as it stands there. */
    private static List<?> answers(String helpers, String body) throws Exception {
        String source = "public final class Page {\n" + helpers
                + "public static java.util.List<Integer> answers() {\n"
                + "java.util.List<Integer> got = new java.util.ArrayList<>();\n" + body + "return got;\n}\n}\n";
        Path folder = Files.createTempDirectory("page");
        Path file = folder.resolve("Page.java");
        Files.writeString(file, source);
        JavaCompiler javac = ToolProvider.getSystemJavaCompiler();
        String classes = Path.of(EssayBones.class.getProtectionDomain().getCodeSource().getLocation().toURI()).toString();
        int refused = javac.run(null, null, null, "-cp", classes, "-d", folder.toString(), file.toString());
        Check.due("the page compiles", refused, 0);
        if (refused != 0) {
            return List.of();
        }
        try (URLClassLoader loader = new URLClassLoader(new URL[] {folder.toUri().toURL()})) {
            return (List<?>) loader.loadClass("Page").getMethod("answers").invoke(null);
        } finally {
            empty(folder);
        }
    }

    private static void empty(Path folder) throws IOException {
        File[] files = folder.toFile().listFiles();
        for (File file : files == null ? new File[0] : files) {
            Files.delete(file.toPath());
        }
        Files.delete(folder);
    }

    private static void calls(String page) {
        for (Method m : EssayBones.class.getDeclaredMethods()) {
            if (Modifier.isPublic(m.getModifiers())) {
                String call = "\\| `" + m.getName() + "\\((\\w+(, \\w+)*)?\\)` \\|";
                Matcher row = Pattern.compile(call).matcher(page);
                boolean isThere = row.find();
                Check.isTrue(m.getName() + " has its row", isThere);
                if (isThere) {
                    String names = row.group(1);
                    int told = names == null ? 0 : names.split(", ").length;
                    Check.due(m.getName() + " with its arguments", told, m.getParameterCount());
                }
            }
        }
    }

    private static void tests(String page) {
        File[] files = Path.of("src/test/java").toFile().listFiles();
        Check.isTrue("there are tests", files != null && files.length > 0);
        for (File file : files == null ? new File[0] : files) {
            String name = file.getName().replace(".java", "");
            if (name.endsWith("Test")) {
                Check.isTrue(name + " is named", page.contains("| " + name + " |"));
            }
        }
        Check.isTrue("how to run all", page.contains("`.ci/run`"));
    }

    private static void constants(String page) {
        Check.isTrue("NONE", page.contains("| `NONE` | " + EssayBones.NONE + " |"));
        Check.isTrue("RANGE", page.contains("| `RANGE` | " + EssayBones.RANGE + " |"));
        Check.isTrue("FULL", page.contains("| `FULL` | " + EssayBones.FULL + " |"));
    }
}
