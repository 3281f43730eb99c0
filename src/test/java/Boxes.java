/** Boxes in a wanted state, with their bytes as hexadecimal text. */
final class Boxes {
    private Boxes() {
    }

    static CipherBox laid(String hex) {
        CipherBox box = new CipherBox();
        lay(box, hex);
        return box;
    }

    static CipherBox withKey(int type, String hex) {
        CipherBox box = laid(hex);
        box.key(type);
        return box;
    }

    static CipherBox withOut(String hex) {
        CipherBox box = new CipherBox();
        write(box, hex);
        return box;
    }

    /** Puts the bytes behind those on the tape, by feed() and end(). */
    static int lay(CipherBox box, String hex) {
        int before = box.about(0);
        int count = hex.length() / 2;
        int answer = before;
        for (int at = 0; at < count; at += 20) {
            answer = box.feed(word(hex, at), word(hex, at + 4), word(hex, at + 8), word(hex, at + 12), word(hex, at + 16));
        }
        return count % 20 == 0 ? answer : box.end(before + count);
    }

    private static int word(String hex, int at) {
        int made = 0;
        for (int i = at; i < at + 4; i++) {
            int one = 2 * i + 2 <= hex.length() ? Integer.parseInt(hex.substring(2 * i, 2 * i + 2), 16) : 0;
            made = made << 8 | one;
        }
        return made;
    }

    /** Makes THE OUT of the bytes, at most 399; the tape must be empty, and is empty again. */
    static void write(CipherBox box, String hex) {
        lay(box, hex + "80");
        box.unpad();
    }

    static void setBegin(CipherBox box, String hex) {
        lay(box, hex);
        box.begin();
    }

    static String written(CipherBox box) {
        StringBuilder made = new StringBuilder();
        int count = box.about(1);
        for (int i = 0; i < count; i++) {
            made.append(String.format("%02x", box.out(i)));
        }
        return made.toString();
    }

    /** The tape's bytes are seen by padding them, which uses them up; a full tape can't be seen so. */
    static String tape(CipherBox box) {
        int count = box.about(0);
        int padded = box.pad(8);
        return padded < count ? "no " + count + " bytes to be seen" : written(box).substring(0, 2 * count);
    }

    static String mac(CipherBox box, int kind, String hex) {
        lay(box, hex);
        box.mac(kind);
        return written(box);
    }

    static String code(CipherBox box, boolean chained, boolean back, String hex) {
        lay(box, hex);
        box.code(chained, back);
        return written(box);
    }

    static String hash(String hex) {
        CipherBox box = laid(hex);
        box.hash();
        return written(box);
    }

    /** Bytes of which no two neighbours are alike, so that a byte out of its place is seen. */
    static String row(int count) {
        StringBuilder made = new StringBuilder();
        for (int i = 0; i < count; i++) {
            made.append(String.format("%02x", (37 * i + 11) & 255));
        }
        return made.toString();
    }

    static String bytes(String one, int count) {
        return one.repeat(count);
    }

    static byte[] bytesOf(String hex) {
        byte[] made = new byte[hex.length() / 2];
        for (int i = 0; i < made.length; i++) {
            made[i] = (byte) Integer.parseInt(hex.substring(2 * i, 2 * i + 2), 16);
        }
        return made;
    }

    static String hexOf(byte[] bytes) {
        StringBuilder made = new StringBuilder();
        for (byte one : bytes) {
            made.append(String.format("%02x", one));
        }
        return made.toString();
    }
}
