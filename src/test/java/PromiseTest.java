/** The promises one by one: ordinary inputs, the edges that the document names, and wrong inputs. */
public final class PromiseTest {
    private static final int NONE = -1;
    private static final Checks CHECKS = new Checks("promises");
    private static final String SIXTEEN = "000102030405060708090a0b0c0d0e0f";
    private static final String DES_KEY = "00112233445566778899aabbccddeeff";

    public static void main(String[] args) {
        promise1NewObject();
        promise2Feed();
        promise3End();
        promise4Out();
        promise5Take();
        promise6Key();
        promise7Begin();
        promise8Code();
        promise8CodeWrong();
        promise9Pad();
        promise10Unpad();
        promise11Mac();
        promise11MacWrong();
        promise12Derive();
        promise12DeriveWrong();
        promise13Hash();
        promise14Same();
        promise15About();
        tapeIsUsedUp();
        CHECKS.close();
    }

    private static void due(String what, long got, long want) {
        CHECKS.due(what, got, want);
    }

    private static CipherBox laid(String hex) {
        CipherBox box = new CipherBox();
        Checks.lay(box, hex);
        return box;
    }

    private static CipherBox full() {
        return laid(Checks.bytes("a5", 400));
    }

    /** Something known in THE OUT, to see whether a call leaves it. */
    private static void write(CipherBox box, String hex) {
        int before = box.about(0);
        due("write on an empty tape", before, 0);
        Checks.lay(box, hex + "80");
        box.unpad();
    }

    private static void dueNone(String what, CipherBox box, int answer) {
        due(what, answer, NONE);
        due(what + ": tape", box.about(0), 0);
    }

    private static void promise1NewObject() {
        CipherBox box = new CipherBox();
        due("NONE", CipherBox.NONE, -1);
        int[] want = {0, 0, NONE, 0, 0, NONE};
        for (int what = 0; what < want.length; what++) {
            due("new: about(" + what + ")", box.about(what), want[what]);
        }
        due("new: out(0)", box.out(0), NONE);
        due("new: take()", box.take(), 0);
        due("new: same()", box.same(), 1);
        Checks.lay(box, SIXTEEN);
        box.key(1);
        CHECKS.due("new: BEGIN is 0s", Checks.code(box, true, false, SIXTEEN), Checks.code(box, false, false, SIXTEEN));
        due("objects are apart", new CipherBox().about(2), NONE);
    }

    private static void promise2Feed() {
        CipherBox box = new CipherBox();
        due("feed", box.feed(0x01020304, 0x80ff007f, 0xfffefdfc, 0, 0x0a0b0c0d), 20);
        due("feed again", box.feed(0x11121314, Integer.MIN_VALUE, Integer.MAX_VALUE, -1, 1), 40);
        CHECKS.due("feed's bytes", Checks.tape(box), "0102030480ff007ffffefdfc000000000a0b0c0d"
            + "11121314800000007fffffffffffffff00000001");
        for (int i = 1; i <= 20; i++) {
            due("feed " + i, box.feed(i, i, i, i, i), 20 * i);
        }
        due("feed beyond 400", box.feed(1, 2, 3, 4, 5), NONE);
        due("feed beyond 400: tape", box.about(0), 400);
        box.end(381);
        due("feed at 381", box.feed(1, 2, 3, 4, 5), NONE);
        due("feed at 381: tape", box.about(0), 381);
        box.end(380);
        due("feed at 380", box.feed(1, 2, 3, 4, 5), 400);
        box.end(399);
        box.pad(8);
        due("feed's last bytes", box.out(398), 0);
        due("feed's bytes at 380", box.out(383), 1);
        due("feed's bytes at 379", box.out(379), 19);
    }

    private static void promise3End() {
        CipherBox box = laid(SIXTEEN);
        due("end(17)", box.end(17), NONE);
        due("end(-1)", box.end(-1), NONE);
        due("end(MIN)", box.end(Integer.MIN_VALUE), NONE);
        due("end(MAX)", box.end(Integer.MAX_VALUE), NONE);
        due("end: tape", box.about(0), 16);
        due("end(16)", box.end(16), 16);
        due("end(5)", box.end(5), 5);
        due("end(5): tape", box.about(0), 5);
        due("end(6)", box.end(6), NONE);
        CHECKS.due("end's bytes", Checks.tape(box), "0001020304");
        Checks.lay(box, SIXTEEN);
        due("end(0)", box.end(0), 0);
        due("end(0): tape", box.about(0), 0);
        due("end(0) again", box.end(0), 0);
        due("end(1) of nothing", box.end(1), NONE);
        Checks.lay(box, "aabb");
        box.end(1);
        Checks.lay(box, "cc");
        CHECKS.due("end, then more", Checks.tape(box), "aacc");
    }

    private static void promise4Out() {
        CipherBox box = new CipherBox();
        write(box, "ff007f80");
        int[] want = {255, 0, 127, 128};
        for (int i = 0; i < 4; i++) {
            due("out(" + i + ")", box.out(i), want[i]);
        }
        for (int i : new int[] {-1, 4, 5, 400, Integer.MAX_VALUE, Integer.MIN_VALUE}) {
            due("out(" + i + ")", box.out(i), NONE);
        }
        box.hash();
        due("out(31)", box.out(31), 0x55);
        due("out(32)", box.out(32), NONE);
        write(box, "01");
        due("out(1) after a shorter one", box.out(1), NONE);
        write(box, "");
        due("out(0) of none", box.out(0), NONE);
    }

    private static void promise5Take() {
        CipherBox box = new CipherBox();
        write(box, "0a0b0c");
        Checks.lay(box, "01");
        due("take()", box.take(), 4);
        due("take() again", box.take(), 7);
        due("take(): out", box.about(1), 3);
        due("take(): out(2)", box.out(2), 12);
        CHECKS.due("take's bytes", Checks.tape(box), "010a0b0c0a0b0c");
        write(box, "0a0b0c");
        Checks.lay(box, Checks.bytes("11", 398));
        due("take() beyond 400", box.take(), NONE);
        due("take() beyond 400: tape", box.about(0), 398);
        due("take() beyond 400: out", box.about(1), 3);
        box.end(397);
        due("take() to 400", box.take(), 400);
        box.end(0);
        write(box, "");
        Checks.lay(box, Checks.bytes("11", 400));
        due("take() of none at 400", box.take(), 400);
    }

    private static void promise6Key() {
        for (int type = -2; type <= 3; type++) {
            for (int length = 0; length <= 48; length++) {
                CipherBox box = laid(Checks.bytes("01", length));
                boolean fits = type == 0 ? length == 16 : type == 1 && (length == 16 || length == 24 || length == 32);
                String what = "key(" + type + ") of " + length;
                due(what, box.key(type), fits ? 1 : NONE);
                due(what + ": tape", box.about(0), 0);
                due(what + ": type", box.about(2), fits ? type : NONE);
                due(what + ": bytes", box.about(3), fits ? length : 0);
            }
        }
        CipherBox box = Checks.withKey(1, SIXTEEN + "1011121314151617");
        String coded = Checks.code(box, false, false, SIXTEEN);
        Checks.lay(box, DES_KEY + DES_KEY);
        dueNone("key(0) of 32", box, box.key(0));
        Checks.lay(box, DES_KEY + "00");
        dueNone("key(1) of 17", box, box.key(1));
        Checks.lay(box, DES_KEY);
        dueNone("key(2)", box, box.key(2));
        CHECKS.due("key stays: out", Checks.written(box), coded);
        CHECKS.due("key stays", Checks.code(box, false, false, SIXTEEN), coded);
        due("key stays: bytes", box.about(3), 24);
        Checks.lay(box, DES_KEY);
        due("another key", box.key(0), 1);
        due("another key: type", box.about(2), 0);
        Checks.lay(box, "0123456789abcdef");
        due("another key: block of 8", box.code(false, false), 8);
    }

    private static void promise7Begin() {
        CipherBox box = Checks.withKey(1, SIXTEEN);
        String zeros = Checks.bytes("00", 16);
        Checks.lay(box, DES_KEY);
        due("begin()", box.begin(), 1);
        due("begin(): tape", box.about(0), 0);
        String coded = Checks.code(box, true, false, zeros);
        CHECKS.due("begin() is mixed in", coded, Checks.code(box, false, false, DES_KEY));
        for (int length : new int[] {0, 8, 15, 17, 32}) {
            Checks.lay(box, Checks.bytes("77", length));
            dueNone("begin() of " + length, box, box.begin());
        }
        CHECKS.due("BEGIN stays", Checks.code(box, true, false, zeros), coded);
        CHECKS.due("BEGIN stays behind code", Checks.code(box, true, false, zeros), coded);
        Checks.lay(box, DES_KEY);
        box.key(0);
        String eight = Checks.code(box, true, false, "0000000000000000");
        Checks.lay(box, DES_KEY.substring(0, 16) + "ffffffffffffffff");
        box.begin();
        CHECKS.due("the first eight alone count", Checks.code(box, true, false, "0000000000000000"), eight);
        CHECKS.due("the first eight count", eight, Checks.code(box, false, false, DES_KEY.substring(0, 16)));
    }

    private static void promise8Code() {
        CipherBox box = Checks.withKey(0, "0123456789abcdeffedcba9876543210");
        Checks.lay(box, DES_KEY);
        box.begin();
        CipherBox other = Checks.withKey(0, "0022446688aaccee" + "ffddbb9977553311");
        Checks.lay(other, DES_KEY);
        other.begin();
        String text = "4e6f772069732074" + "68652074696d6520" + "666f7220616c6c20";
        for (int i = 0; i < 2; i++) {
            boolean chained = i == 1;
            String coded = Checks.code(box, chained, false, text);
            due("DES3 bytes, chained " + chained, coded.length(), text.length());
            CHECKS.due("DES3 back, chained " + chained, Checks.code(box, chained, true, coded), text);
            CHECKS.due("low bits do not matter", Checks.code(other, chained, false, text), coded);
        }
        CHECKS.due("DES3 is no DES of the first half", Checks.code(Checks.withKey(0, "0123456789abcdef0123456789abcdef"),
            false, false, text), "3fa40e8a984d4815" + "6a271787ab8883f9" + "893d51ec4b563b53");
        for (int bytes : new int[] {16, 24, 32}) {
            CipherBox aes = Checks.withKey(1, Checks.bytes("3c", bytes));
            String long400 = Checks.bytes("4e6f772069", 80);
            for (int i = 0; i < 2; i++) {
                String coded = Checks.code(aes, i == 1, false, long400);
                due("AES bytes", coded.length(), 800);
                CHECKS.due("AES back of 400", Checks.code(aes, i == 1, true, coded), long400);
            }
        }
    }

    private static void promise8CodeWrong() {
        CipherBox none = new CipherBox();
        write(none, "0102");
        Checks.lay(none, SIXTEEN);
        dueNone("code without a key", none, none.code(false, false));
        CHECKS.due("code without a key: out", Checks.written(none), "0102");
        CipherBox des = Checks.withKey(0, DES_KEY);
        CipherBox aes = Checks.withKey(1, DES_KEY);
        write(des, "0102");
        write(aes, "0102");
        for (int length : new int[] {0, 1, 7, 9, 15, 17, 399}) {
            Checks.lay(des, Checks.bytes("05", length));
            dueNone("DES3 of " + length, des, des.code(length % 2 == 0, false));
            Checks.lay(aes, Checks.bytes("05", length));
            dueNone("AES of " + length, aes, aes.code(length % 2 == 0, true));
        }
        Checks.lay(aes, Checks.bytes("05", 24));
        dueNone("AES of 24", aes, aes.code(true, false));
        CHECKS.due("wrong DES3: out", Checks.written(des), "0102");
        CHECKS.due("wrong AES: out", Checks.written(aes), "0102");
        Checks.lay(des, Checks.bytes("05", 24));
        due("DES3 of 24", des.code(true, false), 24);
    }

    private static void promise9Pad() {
        CipherBox box = new CipherBox();
        for (int block = 8; block <= 16; block += 8) {
            for (int length : new int[] {0, 1, 7, 8, 9, 15, 16, 17, 384, 391, 392, 399}) {
                int want = (length / block + 1) * block;
                Checks.lay(box, Checks.bytes("a7", length));
                due("pad(" + block + ") of " + length, box.pad(block), want);
                CHECKS.due("pad's bytes", Checks.written(box), Checks.bytes("a7", length) + "80"
                    + Checks.bytes("00", want - length - 1));
                due("pad: tape", box.about(0), 0);
            }
        }
        for (int block : new int[] {8, 16, 0, -8, 1, 4, 9, 24, 32, Integer.MIN_VALUE, Integer.MAX_VALUE}) {
            CipherBox wrong = new CipherBox();
            write(wrong, "0102");
            Checks.lay(wrong, Checks.bytes("a7", block == 8 || block == 16 ? 400 : 3));
            dueNone("wrong pad(" + block + ")", wrong, wrong.pad(block));
            CHECKS.due("wrong pad: out", Checks.written(wrong), "0102");
        }
    }

    private static void promise10Unpad() {
        String[] texts = {"80", "", "01800000", "01", "8080", "80", "0080", "00", "800180", "8001", "0102800080", "01028000"};
        for (int i = 0; i < texts.length; i += 2) {
            CipherBox box = laid(texts[i]);
            due("unpad " + texts[i], box.unpad(), texts[i + 1].length() / 2);
            CHECKS.due("unpad " + texts[i], Checks.written(box), texts[i + 1]);
            due("unpad: tape", box.about(0), 0);
        }
        for (String text : new String[] {"", "00", "0000000000000000", "8001", "81", "7f00", "0180000001", "010203"}) {
            CipherBox box = new CipherBox();
            write(box, "0102");
            Checks.lay(box, text);
            dueNone("unpad " + text, box, box.unpad());
            CHECKS.due("wrong unpad: out", Checks.written(box), "0102");
        }
        CipherBox box = laid("80" + Checks.bytes("00", 399));
        due("unpad of 400", box.unpad(), 0);
        Checks.lay(box, Checks.bytes("01", 399) + "80");
        due("unpad to 399", box.unpad(), 399);
    }

    private static void promise11Mac() {
        CipherBox box = Checks.withKey(0, "0123456789abcdeffedcba9876543210");
        String[] texts = {"", "01", "01020304050607", "0102030405060708", Checks.bytes("5a", 392), Checks.bytes("5a", 400)};
        for (String text : texts) {
            String mac3 = Checks.mac(box, 0, text);
            due("mac(0): bytes", mac3.length(), 16);
            due("mac(0): tape", box.about(0), 0);
            CHECKS.due("mac(0) of " + text.length() / 2, mac3, modelMac(0, text));
            CHECKS.due("mac(1) of " + text.length() / 2, Checks.mac(box, 1, text), modelMac(1, text));
        }
        String before = Checks.mac(box, 1, "01");
        String mac3 = Checks.mac(box, 0, "01");
        Checks.lay(box, DES_KEY);
        box.begin();
        due("BEGIN counts for mac(1)", Checks.mac(box, 1, "01").equals(before) ? 1 : 0, 0);
        CHECKS.due("BEGIN does not count for mac(0)", Checks.mac(box, 0, "01"), mac3);
        CipherBox aes = Checks.withKey(1, SIXTEEN);
        String tag = Checks.mac(aes, 2, "0102");
        Checks.lay(aes, DES_KEY);
        aes.begin();
        CHECKS.due("BEGIN does not count for mac(2)", Checks.mac(aes, 2, "0102"), tag);
        Checks.lay(aes, Checks.bytes("5a", 400));
        due("mac(2) of 400", aes.mac(2), 16);
        due("mac(2) of none", aes.mac(2), 16);
        due("mac(2): tape", aes.about(0), 0);
    }

    private static String modelMac(int kind, String text) {
        Model model = new Model();
        model.tape = bytesOf("0123456789abcdeffedcba9876543210");
        model.key(0);
        model.tape = bytesOf(text);
        model.mac(kind);
        return hexOf(model.written);
    }

    private static byte[] bytesOf(String hex) {
        byte[] made = new byte[hex.length() / 2];
        for (int i = 0; i < made.length; i++) {
            made[i] = (byte) Integer.parseInt(hex.substring(2 * i, 2 * i + 2), 16);
        }
        return made;
    }

    private static String hexOf(byte[] bytes) {
        StringBuilder made = new StringBuilder();
        for (byte one : bytes) {
            made.append(String.format("%02x", one));
        }
        return made.toString();
    }

    private static void promise11MacWrong() {
        CipherBox none = new CipherBox();
        CipherBox des = Checks.withKey(0, DES_KEY);
        CipherBox aes = Checks.withKey(1, DES_KEY);
        write(none, "0102");
        write(des, "0102");
        write(aes, "0102");
        for (int kind : new int[] {-1, 0, 1, 2, 3, Integer.MIN_VALUE, Integer.MAX_VALUE}) {
            Checks.lay(none, SIXTEEN);
            dueNone("mac(" + kind + ") without a key", none, none.mac(kind));
            if (kind != 0 && kind != 1) {
                Checks.lay(des, SIXTEEN);
                dueNone("mac(" + kind + ") by DES3", des, des.mac(kind));
            }
            if (kind != 2) {
                Checks.lay(aes, SIXTEEN);
                dueNone("mac(" + kind + ") by AES", aes, aes.mac(kind));
            }
        }
        CHECKS.due("wrong mac: out", Checks.written(none), "0102");
        CHECKS.due("wrong mac by DES3: out", Checks.written(des), "0102");
        CHECKS.due("wrong mac by AES: out", Checks.written(aes), "0102");
    }

    private static void promise12Derive() {
        String text = Checks.bytes("c3", 100);
        for (int bytes : new int[] {16, 24, 32}) {
            CipherBox box = Checks.withKey(1, Checks.bytes("4d", bytes));
            for (int n : new int[] {1, 15, 16, 17, 31, 32, 33, 48, 49, 63, 64}) {
                for (int c : new int[] {0, 4, 128, 255}) {
                    String t = n % 2 == 0 ? text : "";
                    String want = derivedByMac(box, c, n, t);
                    Checks.lay(box, t);
                    due("derive(" + c + ", " + n + ")", box.derive(c, n), n);
                    CHECKS.due("derive(" + c + ", " + n + ")", Checks.written(box), want);
                    due("derive: tape", box.about(0), 0);
                }
            }
        }
    }

    /** mac(2), which the vectors hold, over the rows that the document lays out. */
    private static String derivedByMac(CipherBox box, int c, int n, String text) {
        StringBuilder made = new StringBuilder();
        for (int i = 1; made.length() < 2 * n; i++) {
            made.append(Checks.mac(box, 2, String.format("%s%02x00%04x%02x%s", Checks.bytes("00", 11), c, 8 * n, i, text)));
        }
        return made.substring(0, 2 * n);
    }

    private static void promise12DeriveWrong() {
        CipherBox box = Checks.withKey(1, SIXTEEN);
        write(box, "0102");
        int[] wrongC = {-1, 256, Integer.MIN_VALUE, Integer.MAX_VALUE};
        for (int c : wrongC) {
            Checks.lay(box, "01");
            dueNone("derive(" + c + ", 16)", box, box.derive(c, 16));
        }
        for (int n : new int[] {0, -1, 65, Integer.MIN_VALUE, Integer.MAX_VALUE}) {
            Checks.lay(box, "01");
            dueNone("derive(1, " + n + ")", box, box.derive(1, n));
        }
        Checks.lay(box, Checks.bytes("c3", 101));
        dueNone("derive of 101", box, box.derive(1, 16));
        CHECKS.due("wrong derive: out", Checks.written(box), "0102");
        CipherBox none = laid("01");
        dueNone("derive without a key", none, none.derive(1, 16));
        CipherBox des = Checks.withKey(0, DES_KEY);
        write(des, "0102");
        Checks.lay(des, "01");
        dueNone("derive by DES3", des, des.derive(1, 16));
        CHECKS.due("derive by DES3: out", Checks.written(des), "0102");
    }

    private static void promise13Hash() {
        Model model = new Model();
        CipherBox box = new CipherBox();
        for (int length = 0; length <= 400; length++) {
            String text = Checks.bytes("61", length);
            model.tape = bytesOf(text);
            model.hash();
            box = new CipherBox();
            Checks.lay(box, text);
            due("hash() of " + length, box.hash(), 32);
            due("hash(): tape", box.about(0), 0);
            CHECKS.due("hash() of " + length, Checks.written(box), hexOf(model.written));
        }
    }

    private static void promise14Same() {
        CipherBox box = new CipherBox();
        due("same() of none", box.same(), 1);
        write(box, "0a0b0c");
        String[] others = {"", "0a", "0a0b", "0a0b0d", "1a0b0c", "0a0b0c00", "0a0b0c0a0b0c"};
        for (String other : others) {
            Checks.lay(box, other);
            due("same() of " + other, box.same(), 0);
            due("same(): tape", box.about(0), 0);
            due("same(): out", box.about(1), 3);
        }
        Checks.lay(box, "0a0b0c");
        due("same()", box.same(), 1);
        due("same(): tape", box.about(0), 0);
        CHECKS.due("same(): out", Checks.written(box), "0a0b0c");
    }

    private static void promise15About() {
        CipherBox box = Checks.withKey(1, "00010307" + "0f1f3f7f" + "ff808183" + "fefdfbf7" + Checks.bytes("10", 8));
        due("about(2)", box.about(2), 1);
        due("about(3)", box.about(3), 24);
        due("about(4)", box.about(4), 18);
        Checks.lay(box, SIXTEEN);
        box.key(0);
        due("about(2) of DES3", box.about(2), 0);
        due("about(3) of DES3", box.about(3), 16);
        due("about(4) of DES3", box.about(4), 8);
        box.hash();
        Checks.lay(box, "010203");
        due("about(0)", box.about(0), 3);
        due("about(1)", box.about(1), 32);
        for (int what : new int[] {-1, 5, 6, Integer.MIN_VALUE, Integer.MAX_VALUE}) {
            due("about(" + what + ")", box.about(what), NONE);
        }
        due("about() leaves the tape", box.about(0), 3);
    }

    private static void tapeIsUsedUp() {
        CipherBox box = full();
        box.out(0);
        box.about(4);
        box.end(401);
        box.feed(1, 2, 3, 4, 5);
        due("the others leave the tape", box.about(0), 400);
        int[] answers = {box.key(1), full().begin(), full().code(true, true), full().unpad(), full().pad(8), full().mac(0),
            full().derive(1, 1)};
        for (int answer : answers) {
            due("wrong on a full tape", answer, NONE);
        }
        due("the tape is used up", box.about(0), 0);
    }
}
