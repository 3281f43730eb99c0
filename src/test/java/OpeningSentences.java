import java.lang.reflect.Constructor;
import java.lang.reflect.Field;
import java.lang.reflect.Method;
import java.lang.reflect.Modifier;
import java.util.Set;
import java.util.TreeSet;

/** What stands ahead of the terms: what the box is, and its public face. */
final class OpeningSentences {
    private static final int NONE = CipherBox.NONE;
    private static final String WHAT = "What it is";
    private static final String FACE = "The public face";
    private static final String[] METHODS = {
        "public int feed(int a, int b, int c, int d, int e);", "public int end(int n);", "public int out(int i);",
        "public int take();", "public int key(int type);", "public int begin();",
        "public int code(boolean chained, boolean back);", "public int pad(int block);", "public int unpad();",
        "public int mac(int kind);", "public int derive(int c, int n);", "public int hash();", "public int same();",
        "public int about(int what);",
    };
    // A type of key and its bytes, in turn.
    private static final int[] KEYS = {0, 16, 1, 16, 1, 24, 1, 32};

    private OpeningSentences() {
    }

    static void testAll(Sentences sentences) {
        sentences.test(WHAT, "A box of published ciphers: triple DES and AES with keys of all their lengths,",
            OpeningSentences::allKeys);
        sentences.test(WHAT, "block by block or in chains, there and back;", OpeningSentences::thereAndBack);
        sentences.test(WHAT, "padding;", OpeningSentences::padding);
        sentences.test(WHAT, "three codes that tell whether bytes are what they were;", OpeningSentences::codesTell);
        sentences.test(WHAT, "keys made of keys;", OpeningSentences::keysOfKeys);
        sentences.test(WHAT, "SHA-256.", OpeningSentences::sha256);
        sentences.test(WHAT, "An object is used for at most 512 calls after it has been made;",
            OpeningSentences::calls512);
        sentences.test(WHAT, "what later calls answer is free.", OpeningSentences::laterCalls);
        sentences.test(FACE, "public final class CipherBox", OpeningSentences::faceAlone);
        sentences.test(FACE, "public static final int NONE = -1;", OpeningSentences::none);
        sentences.test(FACE, "public CipherBox();", OpeningSentences::constructor);
        for (String words : METHODS) {
            sentences.test(FACE, words, checks -> checks.due("found", publicMethods().contains(signature(words))));
        }
    }

    private static void allKeys(Checks checks) {
        for (int i = 0; i < KEYS.length; i += 2) {
            CipherBox box = Boxes.laid(Boxes.row(KEYS[i + 1]));
            String what = "type " + KEYS[i] + ", " + KEYS[i + 1] + " bytes";
            checks.due(what + ": key()", box.key(KEYS[i]), 1);
            Model model = Model.withKey(KEYS[i], Boxes.row(KEYS[i + 1]));
            checks.due(what + ": code()", Boxes.code(box, false, false, Boxes.row(48)),
                model.codeOf(false, false, Boxes.row(48)));
        }
    }

    private static void thereAndBack(Checks checks) {
        // Two blocks alike come out alike block by block, and different in a chain.
        String twice = Boxes.row(16) + Boxes.row(16);
        for (int i = 0; i < KEYS.length; i += 2) {
            CipherBox box = Boxes.withKey(KEYS[i], Boxes.row(KEYS[i + 1]));
            for (boolean chained : new boolean[] {false, true}) {
                String what = "type " + KEYS[i] + ", " + KEYS[i + 1] + " bytes, chained " + chained;
                String coded = Boxes.code(box, chained, false, twice);
                checks.due(what + ": is another", !coded.equals(twice));
                checks.due(what + ": blocks alike", coded.substring(0, 32).equals(coded.substring(32)) != chained);
                checks.due(what + ": and back", Boxes.code(box, chained, true, coded), twice);
            }
        }
    }

    private static void padding(Checks checks) {
        for (int block = 8; block <= 16; block += 8) {
            for (int length = 0; length < 400; length++) {
                CipherBox box = Boxes.laid(Boxes.row(length));
                int padded = box.pad(block);
                String what = "pad(" + block + ") of " + length;
                checks.due(what + ": whole blocks, and longer", padded % block == 0 && padded > length);
                checks.due(what + ": take()", box.take(), padded);
                checks.due(what + ": unpad()", box.unpad(), length);
                checks.due(what + ": and back", Boxes.written(box), Boxes.row(length));
            }
        }
    }

    /** Any bit changed, a byte less and a byte more give another code; the same bytes give the same. */
    private static void codesTell(Checks checks) {
        String text = Boxes.row(17);
        for (int kind = 0; kind <= 2; kind++) {
            CipherBox box = Boxes.withKey(kind / 2, Boxes.row(16));
            String code = Boxes.mac(box, kind, text);
            dueSame(checks, "mac(" + kind + ") again", box, kind, text, code, 1);
            dueSame(checks, "mac(" + kind + ") of a byte less", box, kind, Boxes.row(16), code, 0);
            dueSame(checks, "mac(" + kind + ") of a byte more", box, kind, text + "00", code, 0);
            for (int bit = 0; bit < 17 * 8; bit++) {
                byte[] changed = Boxes.bytesOf(text);
                changed[bit / 8] ^= (byte) (1 << bit % 8);
                CipherBox other = Boxes.withKey(kind / 2, Boxes.row(16));
                dueSame(checks, "mac(" + kind + "), bit " + bit, other, kind, Boxes.hexOf(changed), code, 0);
            }
        }
    }

    private static void dueSame(Checks checks, String what, CipherBox box, int kind, String text, String code, int want) {
        Boxes.lay(box, text);
        box.mac(kind);
        Boxes.lay(box, code);
        checks.due(what, box.same(), want);
    }

    private static void keysOfKeys(Checks checks) {
        for (int i = 0; i < KEYS.length; i += 2) {
            CipherBox box = Boxes.withKey(1, Boxes.row(32));
            Boxes.lay(box, "0102030405");
            String what = "a key of type " + KEYS[i] + ", " + KEYS[i + 1] + " bytes";
            checks.due(what + ": derive()", box.derive(4, KEYS[i + 1]), KEYS[i + 1]);
            String made = Model.withKey(1, Boxes.row(32)).deriveOf(4, KEYS[i + 1], "0102030405");
            box.take();
            checks.due(what + ": key()", box.key(KEYS[i]), 1);
            checks.due(what + ": code()", Boxes.code(box, false, false, Boxes.row(16)),
                Model.withKey(KEYS[i], made).codeOf(false, false, Boxes.row(16)));
        }
    }

    private static void sha256(Checks checks) {
        String once = "ba7816bf8f01cfea414140de5dae2223b00361a396177a9cb410ff61f20015ad";
        CipherBox box = Boxes.laid("616263");
        checks.due("hash()", box.hash(), 32);
        checks.due("of abc", Boxes.written(box), once);
        box.take();
        box.hash();
        checks.due("of that", Boxes.written(box), Model.hashOf(once));
    }

    /** The 512th call is answered like the first: 480 for a chain of hashes, 32 to read the last. */
    private static void calls512(Checks checks) {
        CipherBox box = new CipherBox();
        String want = "";
        for (int i = 0; i < 240; i++) {
            checks.due("take() " + i, box.take(), i == 0 ? 0 : 32);
            checks.due("hash() " + i, box.hash(), 32);
            want = Model.hashOf(want);
        }
        for (int i = 0; i < 32; i++) {
            checks.due("out(" + i + ")", box.out(i), Integer.parseInt(want.substring(2 * i, 2 * i + 2), 16));
        }
    }

    /** Free, but LANGUAGE.md wants them to end and to throw nothing, and no other object may feel them. */
    private static void laterCalls(Checks checks) {
        CipherBox box = Boxes.withKey(1, Boxes.row(32));
        int rounds = 0;
        for (int i = -300; i < 300; i++) {
            box.feed(i, i, i, i, i);
            box.take();
            box.end(i & 31);
            box.key(i);
            box.feed(i, i, i, i, i);
            box.begin();
            box.take();
            box.code((i & 1) == 0, (i & 2) == 0);
            box.mac(i);
            box.derive(i, i);
            box.pad(i);
            box.unpad();
            box.hash();
            box.same();
            box.out(i);
            box.about(i);
            rounds++;
        }
        checks.due("rounds of calls", rounds, 600);
        checks.due("a new object's tape", new CipherBox().about(0), 0);
        checks.due("a new object's key", new CipherBox().about(2), NONE);
    }

    private static Set<String> publicMethods() {
        Set<String> found = new TreeSet<>();
        for (Method method : CipherBox.class.getDeclaredMethods()) {
            if (!Modifier.isPrivate(method.getModifiers())) {
                found.add(method.toString());
            }
        }
        return found;
    }

    /** The document's line as Java tells a method: with the class, and without the parameters' names. */
    private static String signature(String words) {
        return words.replaceAll("(int|boolean) \\w+(?=[,)])", "$1").replace(", ", ",").replace(";", "")
            .replace("public int ", "public int CipherBox.");
    }

    private static void faceAlone(Checks checks) {
        checks.due("the class", Modifier.toString(CipherBox.class.getModifiers()), "public final");
        checks.due("its name", CipherBox.class.getName(), "CipherBox");
        Set<String> want = new TreeSet<>();
        for (String words : METHODS) {
            want.add(signature(words));
        }
        checks.due("the methods that are not private", publicMethods().toString(), want.toString());
        for (Field field : CipherBox.class.getDeclaredFields()) {
            boolean constant = field.getName().equals("NONE");
            checks.due(field + " is private", Modifier.isPrivate(field.getModifiers()) != constant);
        }
    }

    private static void none(Checks checks) {
        checks.due("its value", NONE, -1);
        for (Field field : CipherBox.class.getDeclaredFields()) {
            if (field.getName().equals("NONE")) {
                checks.due("the field", field.toString(), "public static final int CipherBox.NONE");
            }
        }
    }

    private static void constructor(Checks checks) {
        Constructor<?>[] makers = CipherBox.class.getDeclaredConstructors();
        checks.due("how many", makers.length, 1);
        checks.due("it", makers[0].toString(), "public CipherBox()");
    }
}
