/** Counts the answers that are not as due, and handles a box's bytes as hexadecimal text. */
final class Checks {
    private final String title;
    private int asked = 0;
    private int wrong = 0;

    Checks(String title) {
        this.title = title;
    }

    void due(String what, long got, long want) {
        asked++;
        if (got != want) {
            wrong++;
            System.out.println(title + ": " + what + " answered " + got + ", due is " + want);
        }
    }

    void due(String what, String got, String want) {
        asked++;
        if (!got.equals(want)) {
            wrong++;
            System.out.println(title + ": " + what + " gave " + got + ", due is " + want);
        }
    }

    void close() {
        System.out.println(title + ": " + asked + " answers, " + wrong + " not as due");
        if (wrong != 0 || asked == 0) {
            System.exit(1);
        }
    }

    /** Puts the bytes behind those on the tape, by feed() and end(). */
    static int lay(CipherBox box, String hex) {
        int before = box.about(0);
        int count = hex.length() / 2;
        int answer = before;
        for (int at = 0; at < count; at += 20) {
            answer = box.feed(word(hex, at), word(hex, at + 4), word(hex, at + 8), word(hex, at + 12), word(hex, at + 16));
        }
        return count % 20 == 0 ? answer : box.end(before + count);
    }

    private static int word(String hex, int at) {
        int made = 0;
        for (int i = at; i < at + 4; i++) {
            int one = 2 * i + 2 <= hex.length() ? Integer.parseInt(hex.substring(2 * i, 2 * i + 2), 16) : 0;
            made = made << 8 | one;
        }
        return made;
    }

    static String written(CipherBox box) {
        StringBuilder made = new StringBuilder();
        for (int i = 0; i < box.about(1); i++) {
            made.append(String.format("%02x", box.out(i)));
        }
        return made.toString();
    }

    /** The tape's bytes are seen by padding them, which uses them up. */
    static String tape(CipherBox box) {
        int count = box.about(0);
        box.pad(8);
        return written(box).substring(0, 2 * count);
    }

    static String bytes(String one, int count) {
        return one.repeat(count);
    }

    static CipherBox withKey(int type, String hex) {
        CipherBox box = new CipherBox();
        lay(box, hex);
        box.key(type);
        return box;
    }

    static String mac(CipherBox box, int kind, String hex) {
        lay(box, hex);
        box.mac(kind);
        return written(box);
    }

    static String code(CipherBox box, boolean chained, boolean back, String hex) {
        lay(box, hex);
        box.code(chained, back);
        return written(box);
    }
}
