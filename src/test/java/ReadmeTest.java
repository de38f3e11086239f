import java.io.IOException;
import java.lang.reflect.Field;
import java.lang.reflect.Method;
import java.lang.reflect.Modifier;
import java.nio.file.Files;
import java.nio.file.Path;
import java.util.regex.Pattern;

/** README.md says how to use the class. The property "project" is the folder in which it is. */
public final class ReadmeTest {
    private static String readme;

    public static void main(String[] args) throws IOException {
        readme = Files.readString(Path.of(System.getProperty("project", "."), "README.md"));
        methods();
        constants();
        example();
        tests();
        Due.end();
    }

    private static void methods() {
        Due.sentence("README.md says what each method is called with and answers");
        dueInReadme("`TrigramLines\\(\\)`, without arguments");
        for (Method m : TrigramLines.class.getDeclaredMethods()) {
            if (Modifier.isPublic(m.getModifiers())) {
                dueInReadme("\n- `" + m.getReturnType() + " " + m.getName() + "\\(" + arguments(m) + "\\)`: \\w");
            }
        }
    }

    private static String arguments(Method m) {
        StringBuilder all = new StringBuilder();
        for (Class<?> type : m.getParameterTypes()) {
            all.append(all.length() == 0 ? "" : ", ").append(type).append(" \\w+");
        }
        return all.toString();
    }

    private static void constants() {
        Due.sentence("README.md says what each constant is");
        for (Field f : TrigramLines.class.getDeclaredFields()) {
            if (Modifier.isPublic(f.getModifiers())) {
                dueInReadme("`" + f.getName() + "` is " + valueOf(f) + "\\b");
            }
        }
    }

    private static String valueOf(Field constant) {
        try {
            return Integer.toString(constant.getInt(null));
        } catch (IllegalAccessException e) {
            return e.toString();
        }
    }

    private static void example() {
        Due.sentence("README.md's example");
        TrigramLines lines = new TrigramLines();
        dueToStand("TrigramLines lines = new TrigramLines();\n");
        dueToStand("for (char c : \"hello world\\nhelp me\".toCharArray()) {\n    lines.write(c);\n}\n");
        for (char c : "hello world\nhelp me".toCharArray()) {
            Due.is("write", lines.write(c), true);
        }
        dueInExample("lines.put(3)", lines.put(3));
        dueInExample("lines.length(3)", lines.length(3));
        dueToStand("for (char c : \"hel+o\".toCharArray()) {\n    lines.type(c);\n}\n");
        for (char c : "hel+o".toCharArray()) {
            Due.is("type", lines.type(c), true);
        }
        dueInExample("lines.fault()", lines.fault());
        dueInExample("lines.size()", lines.size());
        dueInExample("lines.strings()", lines.strings());
        dueInExample("lines.search()", lines.search());
        dueInExample("lines.possible()", lines.possible());
        dueInExample("lines.hit(0)", lines.hit(0));
        dueInExample("lines.hit(1)", lines.hit(1));
        dueInExample("lines.shards()", lines.shards());
        dueInExample("lines.shard(-1, 1)", lines.shard(-1, 1));
        dueInExample("lines.postings('h', 'e', 'l')", lines.postings('h', 'e', 'l'));
        dueInExample("lines.compact()", lines.compact());
        dueInExample("lines.left()", lines.left());
        dueInExample("lines.back()", lines.back());
        dueInExample("lines.drop(3)", lines.drop(3));
    }

    private static void tests() throws IOException {
        Due.sentence("README.md says how to run the tests, and names each");
        dueInReadme("\n\\.ci/run\n");
        Path folder = Path.of(System.getProperty("project", "."), "src", "test", "java");
        try (var files = Files.list(folder)) {
            for (Object file : files.toArray()) {
                String name = ((Path) file).getFileName().toString();
                dueToStand("`" + name.replace(".java", "") + "`");
            }
        }
    }

    /** The call stands in the example with its answer behind it. */
    private static void dueInExample(String call, Object answer) {
        dueInReadme("\n" + Pattern.quote(call + ";") + " +// " + Pattern.quote(answer.toString()) + "[,\n]");
    }

    private static void dueToStand(String words) {
        dueInReadme(Pattern.quote(words));
    }

    private static void dueInReadme(String expression) {
        Due.is(expression.replace("\n", " "), Pattern.compile(expression).matcher(readme).find(), true);
    }
}
