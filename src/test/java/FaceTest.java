import java.io.IOException;
import java.lang.management.ManagementFactory;
import java.lang.reflect.Constructor;
import java.lang.reflect.Field;
import java.lang.reflect.Method;
import java.lang.reflect.Modifier;
import java.nio.file.Files;
import java.nio.file.Path;
import java.util.Set;
import java.util.TreeSet;
import java.util.regex.Pattern;

/** The document's face and no more, the rules of LANGUAGE.md that a look can tell, and the room. */
public final class FaceTest {
    private static final Checks CHECKS = new Checks("face");
    private static final Set<String> NAMES = Set.of("feed", "end", "out", "take", "key", "begin", "code", "pad", "unpad",
        "mac", "derive", "hash", "same", "about");
    private static final Set<String> FACE = Set.of("int feed(int, int, int, int, int)", "int end(int)", "int out(int)",
        "int take()", "int key(int)", "int begin()", "int code(boolean, boolean)", "int pad(int)", "int unpad()",
        "int mac(int)", "int derive(int, int)", "int hash()", "int same()", "int about(int)");
    private static final String[] FORBIDDEN = {
        "throw", "throws", "try", "catch", "synchronized", "assert", "package", "->", "::", "Exact\\b", "equals",
        "hashCode", "toString", "static\\s*\\{", "java\\.util\\.(?!Arrays;)", "System\\.(?!arraycopy)",
    };

    public static void main(String[] args) throws IOException {
        face();
        nestedClasses();
        source();
        room();
        CHECKS.close();
    }

    private static void face() {
        CHECKS.due("class", Modifier.toString(CipherBox.class.getModifiers()), "public final");
        Set<String> found = new TreeSet<>();
        for (Method method : CipherBox.class.getDeclaredMethods()) {
            if (Modifier.isPublic(method.getModifiers())) {
                found.add(signature(method));
            } else {
                CHECKS.due(method + " is private", Modifier.isPrivate(method.getModifiers()) ? 1 : 0, 1);
                CHECKS.due(method + " has a name of the face", NAMES.contains(method.getName()) ? 1 : 0, 0);
            }
        }
        CHECKS.due("methods", found.toString(), new TreeSet<>(FACE).toString());
        Constructor<?>[] makers = CipherBox.class.getDeclaredConstructors();
        CHECKS.due("constructors", makers.length, 1);
        CHECKS.due("constructor", makers[0].toString(), "public CipherBox()");
        for (Field field : CipherBox.class.getDeclaredFields()) {
            boolean constant = field.getName().equals("NONE");
            CHECKS.due(field + " hidden", Modifier.isPrivate(field.getModifiers()) ? 1 : 0, constant ? 0 : 1);
        }
        CHECKS.due("NONE", CipherBox.NONE, -1);
    }

    private static String signature(Method method) {
        StringBuilder made = new StringBuilder(method.getReturnType() + " " + method.getName() + "(");
        for (Class<?> type : method.getParameterTypes()) {
            made.append(made.charAt(made.length() - 1) == '(' ? "" : ", ").append(type);
        }
        return made.append(")").toString();
    }

    private static void nestedClasses() {
        Class<?>[] nested = CipherBox.class.getDeclaredClasses();
        CHECKS.due("at most twelve classes", nested.length <= 11 ? 1 : 0, 1);
        for (Class<?> one : nested) {
            CHECKS.due(one + " static", Modifier.isStatic(one.getModifiers()) ? 1 : 0, 1);
            CHECKS.due(one + " hidden", Modifier.isPublic(one.getModifiers()) ? 1 : 0, 0);
            for (Field field : one.getDeclaredFields()) {
                boolean changing = Modifier.isStatic(field.getModifiers()) && !Modifier.isFinal(field.getModifiers());
                CHECKS.due(field + " is static and not final", changing ? 1 : 0, 0);
            }
            for (Method method : one.getDeclaredMethods()) {
                CHECKS.due(method + " has a name of the face", NAMES.contains(method.getName()) ? 1 : 0, 0);
                CHECKS.due(method + " parameters", method.getParameterCount() <= 7 ? 1 : 0, 1);
            }
        }
    }

    private static void source() throws IOException {
        Path file = Path.of(System.getProperty("project.root", "."), "src/main/java/CipherBox.java");
        String code = Files.readString(file).replaceAll("(?s)/\\*.*?\\*/", "").replaceAll("//[^\n]*", "");
        for (String word : FORBIDDEN) {
            String rule = Character.isLetter(word.charAt(0)) && word.matches("[a-z]+") ? "\\b" + word + "\\b" : word;
            CHECKS.due("source holds " + word, Pattern.compile(rule).matcher(code).find() ? 1 : 0, 0);
        }
    }

    /** No call makes objects, so that 512 of the dearest stay far inside the room. */
    private static void room() {
        com.sun.management.ThreadMXBean threads = (com.sun.management.ThreadMXBean) ManagementFactory.getThreadMXBean();
        dearCalls(new CipherBox());
        CipherBox box = new CipherBox();
        long self = Thread.currentThread().getId();
        long before = threads.getThreadAllocatedBytes(self);
        dearCalls(box);
        long made = threads.getThreadAllocatedBytes(self) - before;
        CHECKS.due("bytes made by 500 calls, " + made + ", are too many", made > 100_000 ? 1 : 0, 0);
    }

    private static void dearCalls(CipherBox box) {
        for (int i = 0; i < 25; i++) {
            box.feed(i, i, i, i, i);
            box.end(16);
            box.key(i & 1);
            for (int j = 0; j < 4; j++) {
                box.feed(j, j, j, j, j);
            }
            box.code(true, false);
            box.take();
            box.code(true, true);
            box.take();
            box.mac((i & 1) * 2);
            box.take();
            box.mac(1);
            box.derive(i, 64);
            box.take();
            box.hash();
            box.same();
            box.pad(16);
        }
    }
}
