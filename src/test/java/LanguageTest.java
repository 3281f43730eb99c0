import java.io.IOException;
import java.lang.management.ManagementFactory;
import java.lang.reflect.Field;
import java.lang.reflect.Method;
import java.lang.reflect.Modifier;
import java.nio.file.Files;
import java.nio.file.Path;
import java.util.Set;
import java.util.regex.Pattern;

/** The rules of LANGUAGE.md that a look can tell, and the room that calls take. */
public final class LanguageTest {
    private static final Checks CHECKS = new Checks("language");
    private static final Set<String> NAMES = Set.of("feed", "end", "out", "take", "key", "begin", "code", "pad", "unpad",
        "mac", "derive", "hash", "same", "about");
    private static final String[] FORBIDDEN = {
        "throw", "throws", "try", "catch", "synchronized", "assert", "package", "->", "::", "Exact\\b", "equals",
        "hashCode", "toString", "static\\s*\\{", "java\\.util\\.(?!Arrays;)", "System\\.(?!arraycopy)",
    };

    public static void main(String[] args) throws IOException {
        names();
        staticFields(CipherBox.class);
        nestedClasses();
        source();
        room();
        CHECKS.close();
    }

    private static void names() {
        for (Method method : CipherBox.class.getDeclaredMethods()) {
            if (Modifier.isPrivate(method.getModifiers())) {
                CHECKS.due(method + " has a name of the face", NAMES.contains(method.getName()) ? 1 : 0, 0);
            }
        }
    }

    private static void nestedClasses() {
        Class<?>[] nested = CipherBox.class.getDeclaredClasses();
        CHECKS.due("at most twelve classes", nested.length <= 11 ? 1 : 0, 1);
        for (Class<?> one : nested) {
            CHECKS.due(one + " static", Modifier.isStatic(one.getModifiers()) ? 1 : 0, 1);
            CHECKS.due(one + " hidden", Modifier.isPublic(one.getModifiers()) ? 1 : 0, 0);
            staticFields(one);
            for (Method method : one.getDeclaredMethods()) {
                CHECKS.due(method + " has a name of the face", NAMES.contains(method.getName()) ? 1 : 0, 0);
                CHECKS.due(method + " parameters", method.getParameterCount() <= 7 ? 1 : 0, 1);
            }
        }
    }

    private static void staticFields(Class<?> one) {
        for (Field field : one.getDeclaredFields()) {
            boolean changing = Modifier.isStatic(field.getModifiers()) && !Modifier.isFinal(field.getModifiers());
            CHECKS.due(field + " is static and not final", changing ? 1 : 0, 0);
        }
    }

    private static void source() throws IOException {
        Path file = Path.of(System.getProperty("project.root", "."), "src/main/java/CipherBox.java");
        String code = Files.readString(file).replaceAll("(?s)/\\*.*?\\*/", "").replaceAll("//[^\n]*", "");
        for (String word : FORBIDDEN) {
            String rule = Character.isLetter(word.charAt(0)) && word.matches("[a-z]+") ? "\\b" + word + "\\b" : word;
            CHECKS.due("source holds " + word, Pattern.compile(rule).matcher(code).find() ? 1 : 0, 0);
        }
    }

    /** No call makes objects, so that 512 of the dearest stay far inside the room. */
    private static void room() {
        com.sun.management.ThreadMXBean threads = (com.sun.management.ThreadMXBean) ManagementFactory.getThreadMXBean();
        dearCalls(new CipherBox());
        CipherBox box = new CipherBox();
        long self = Thread.currentThread().getId();
        long before = threads.getThreadAllocatedBytes(self);
        dearCalls(box);
        long made = threads.getThreadAllocatedBytes(self) - before;
        CHECKS.due("bytes made by 500 calls, " + made + ", are too many", made > 100_000 ? 1 : 0, 0);
    }

    private static void dearCalls(CipherBox box) {
        for (int i = 0; i < 25; i++) {
            box.feed(i, i, i, i, i);
            box.end(16);
            box.key(i & 1);
            for (int j = 0; j < 4; j++) {
                box.feed(j, j, j, j, j);
            }
            box.code(true, false);
            box.take();
            box.code(true, true);
            box.take();
            box.mac((i & 1) * 2);
            box.take();
            box.mac(1);
            box.derive(i, 64);
            box.take();
            box.hash();
            box.same();
            box.pad(16);
        }
    }
}
