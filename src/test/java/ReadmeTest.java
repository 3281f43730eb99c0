import java.io.IOException;
import java.lang.reflect.Method;
import java.lang.reflect.Modifier;
import java.nio.file.Files;
import java.nio.file.Path;
import java.util.regex.Matcher;
import java.util.regex.Pattern;
import javax.tools.ToolProvider;

/** README.md: its examples give the answers that stand behind them, and it names every call. */
public final class ReadmeTest {
    private static final Pattern EXAMPLE = Pattern.compile("(?s)```java\n(.*?)```");
    private static final Pattern ANSWER = Pattern.compile("int (\\w+) = .*; +// (.+)");
    private static final String NAME = "ReadmeExamples";

    private ReadmeTest() {
    }

    public static void main(String[] args) throws IOException, ReflectiveOperationException {
        Checks checks = new Checks("readme");
        String text = Files.readString(Path.of(System.getProperty("project.root", "."), "README.md"));
        namesEveryCall(checks, text);
        checks.due("there are examples", EXAMPLE.matcher(text).find());
        if (compile(program(text))) {
            Class.forName(NAME).getDeclaredMethod("run", Checks.class).invoke(null, checks);
        } else {
            checks.due("the examples compile", false);
        }
        checks.close();
    }

    private static void namesEveryCall(Checks checks, String text) {
        for (Method method : CipherBox.class.getDeclaredMethods()) {
            if (Modifier.isPublic(method.getModifiers())) {
                int count = method.getParameterCount();
                String names = count == 0 ? "" : "\\w+(, \\w+){" + (count - 1) + "}";
                Pattern row = Pattern.compile("(?m)^\\| `" + method.getName() + "\\(" + names + "\\)` \\|");
                checks.due("a row for " + method.getName(), row.matcher(text).find());
            }
        }
    }

    /** Each example in a block of its own, with a check behind each line that tells an answer. */
    private static String program(String text) {
        StringBuilder made = new StringBuilder("final class " + NAME + " {\n    static void run(Checks checks) {\n");
        Matcher example = EXAMPLE.matcher(text);
        for (int number = 1; example.find(); number++) {
            made.append("{\n");
            for (String line : example.group(1).split("\n")) {
                made.append(line).append("\n");
                Matcher answer = ANSWER.matcher(line);
                if (answer.matches()) {
                    made.append("checks.due(\"example " + number + ": " + answer.group(1) + "\", "
                        + answer.group(1) + ", " + answer.group(2) + ");\n");
                }
            }
            made.append("}\n");
        }
        return made.append("    }\n}\n").toString();
    }

    /** Beside this class, so that it is found there and finds Checks. */
    private static boolean compile(String program) throws IOException {
        String place = System.getProperty("java.class.path");
        Path file = Path.of(place, NAME + ".java");
        Files.writeString(file, program);
        return ToolProvider.getSystemJavaCompiler().run(null, null, null, "-cp", place, "-d", place, file.toString()) == 0;
    }
}
