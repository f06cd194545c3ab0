import java.io.IOException;
import java.lang.reflect.Constructor;
import java.lang.reflect.Field;
import java.lang.reflect.Method;
import java.lang.reflect.Modifier;
import java.nio.file.Files;
import java.nio.file.Path;
import java.util.HashSet;
import java.util.Set;
import java.util.TreeSet;
import java.util.regex.Matcher;
import java.util.regex.Pattern;

/** The public face, and those rules of LANGUAGE.md that can be seen without reading the code. */
public final class FaceTest {
    private static final String[] FACE = {"feed 5", "end 1", "stop 0", "sign 1", "ending 0", "weight 2",
        "read 0", "fault 1", "sentence 2", "word 3", "shared 2", "cost 2", "tree 0", "next 0",
        "finding 1", "marks 5", "pair 2", "order 1", "ordered 1", "stands 1", "arrange 1", "move 2",
        "count 1"};
    private static final String[] BANNED = {"throw", "throws", "try", "catch", "synchronized", "assert",
        "hashCode", "toString", "Object", "System\\.out", "Exception", "Error", "Random", "->", "::",
        "@", "static \\{", "import (?!java\\.util\\.Arrays;)", "package", "volatile", "native"};

    public static void main(String[] args) throws IOException {
        face();
        nested();
        source();
        Check.close();
    }

    private static void face() {
        Class<?> c = EssayBones.class;
        Check.isTrue("public and final", Modifier.isPublic(c.getModifiers()) && Modifier.isFinal(c.getModifiers()));
        Set<String> open = new TreeSet<>();
        for (Method m : c.getDeclaredMethods()) {
            if (!Modifier.isPrivate(m.getModifiers())) {
                Check.isTrue(m + " is public", Modifier.isPublic(m.getModifiers()));
                Check.isTrue(m + " answers an int", m.getReturnType() == int.class);
                for (Class<?> p : m.getParameterTypes()) {
                    Check.isTrue(m + " takes ints", p == int.class);
                }
                open.add(m.getName() + " " + m.getParameterCount());
            }
        }
        Check.isTrue("the face is " + open, open.equals(new TreeSet<>(Set.of(FACE))));
        for (Constructor<?> k : c.getDeclaredConstructors()) {
            Check.isTrue("constructor", Modifier.isPublic(k.getModifiers()) && k.getParameterCount() == 0);
        }
        Set<String> constants = new TreeSet<>();
        for (Field f : c.getDeclaredFields()) {
            if (!Modifier.isPrivate(f.getModifiers())) {
                constants.add(f.getName());
            }
            Check.isTrue(f + " is final if static",
                    !Modifier.isStatic(f.getModifiers()) || Modifier.isFinal(f.getModifiers()));
        }
        Check.isTrue("constants", constants.equals(new TreeSet<>(Set.of("NONE", "RANGE", "FULL"))));
    }

    private static void nested() {
        Set<String> names = new HashSet<>();
        for (String name : FACE) {
            names.add(name.substring(0, name.indexOf(' ')));
        }
        Class<?>[] inside = EssayBones.class.getDeclaredClasses();
        Check.isTrue("at most twelve classes", inside.length + 1 <= 12);
        for (Class<?> c : inside) {
            Check.isTrue(c + " is static", Modifier.isStatic(c.getModifiers()));
            Check.isTrue(c + " is not public", !Modifier.isPublic(c.getModifiers()));
            int fields = 0;
            for (Field f : c.getDeclaredFields()) {
                fields += Modifier.isStatic(f.getModifiers()) ? 0 : 1;
            }
            Check.isTrue(c + " has few fields", fields <= 20);
            for (Method m : c.getDeclaredMethods()) {
                Check.isTrue(m + " has a name of its own", !names.contains(m.getName()));
                Check.isTrue(m + " has few parameters", m.getParameterCount() <= 7);
            }
        }
    }

    private static void source() throws IOException {
        String text = Files.readString(Path.of("src/main/java/EssayBones.java"));
        String code = text.replaceAll("(?s)/\\*.*?\\*/", "").replaceAll("//[^\n]*", "");
        for (String word : BANNED) {
            Matcher found = Pattern.compile(word.matches("\\w+") ? "\\b" + word + "\\b" : word).matcher(code);
            Check.isTrue("no " + word, !found.find());
        }
        for (int p = 0; p < text.length(); p++) {
            Check.isTrue("a plain sign at " + p, text.charAt(p) == '\n' || text.charAt(p) >= 32 && text.charAt(p) < 127);
        }
        longestMethod(text);
    }

    private static void longestMethod(String text) {
        int from = -1;
        String[] lines = text.split("\n");
        for (int k = 0; k < lines.length; k++) {
            if (lines[k].matches(" {4}( {4})?(public|private).*\\) \\{")) {
                from = k;
            } else if (from >= 0 && lines[k].matches(" {4}( {4})?\\}")) {
                Check.isTrue(lines[from].trim() + " is short", k - from < 60);
                from = -1;
            }
        }
    }
}
