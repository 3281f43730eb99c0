/** Promises 6 to 13: keys, coding, padding, the codes, derived keys and hashes. */
final class CipherSentences {
    private static final int NONE = CipherBox.NONE;
    private static final String KEY = "Promise 6: key";
    private static final String BEGIN = "Promise 7: begin";
    private static final String CODE = "Promise 8: code";
    private static final String PAD = "Promise 9: pad";
    private static final String UNPAD = "Promise 10: unpad";
    private static final String MAC = "Promise 11: mac";
    private static final String DERIVE = "Promise 12: derive";
    private static final String HASH = "Promise 13: hash";
    private static final String DES_KEY = "0123456789abcdeffedcba9876543210";
    private static final String AES_KEY = "000102030405060708090a0b0c0d0e0f";
    private static final String START = "00112233445566778899aabbccddeeff";
    private static final String EIGHT = "4e6f772069732074";
    private static final int[] FAR = {Integer.MIN_VALUE, Integer.MIN_VALUE + 1, -256, 256, 257, Integer.MAX_VALUE};

    private CipherSentences() {
    }

    static void testAll(Sentences sentences) {
        sentences.test(KEY, "The bytes are THE KEY: of type 0 for DES3 (16), 1 for AES (16, 24, 32): 1;",
            CipherSentences::keyLengths);
        sentences.test(KEY, "NONE, and THE KEY stays, if it is no such type,", CipherSentences::keyNoSuchType);
        sentences.test(KEY, "or not so many.", CipherSentences::keyNotSoMany);
        sentences.test(BEGIN, "The sixteen bytes are BEGIN", CipherSentences::beginSixteen);
        sentences.test(BEGIN, "(its first eight alone count for DES): 1;", CipherSentences::beginFirstEight);
        sentences.test(BEGIN, "NONE, and BEGIN stays, if there are not sixteen.", CipherSentences::beginNotSixteen);
        sentences.test(CODE, "The bytes by THE KEY's cipher, by ECB,", CipherSentences::codeEach);
        sentences.test(CODE, "or CBC from BEGIN (chained),", CipherSentences::codeChained);
        sentences.test(CODE, "there or back: how many are written.", CipherSentences::codeThereAndBack);
        sentences.test(CODE, "NONE without a KEY,", CipherSentences::codeWithoutKey);
        sentences.test(CODE, "or if they are not a block or several (8 of DES3, 16 of AES).", CipherSentences::codeNotWhole);
        sentences.test(PAD, "The bytes, PADDED for a block of 8 or 16: how many are written.", CipherSentences::padEach);
        sentences.test(PAD, "NONE if block is another one,", CipherSentences::padAnotherBlock);
        sentences.test(PAD, "or there would be more than 400.", CipherSentences::padTooMany);
        sentences.test(UNPAD, "The bytes, UNPADDED", CipherSentences::unpadEach);
        sentences.test(UNPAD, "(perhaps none are left):", CipherSentences::unpadNoneLeft);
        sentences.test(UNPAD, "how many are written;", CipherSentences::unpadCounts);
        sentences.test(UNPAD, "NONE if they are not so padded.", CipherSentences::unpadNotPadded);
        sentences.test(MAC, "Kind 0: MAC3,", CipherSentences::macKind0);
        sentences.test(MAC, "1: RETAIL with iv BEGIN's first eight (8 bytes each; a DES3 KEY),", CipherSentences::macKind1);
        sentences.test(MAC, "2: CMAC (16; an AES KEY): how many are written.", CipherSentences::macKind2);
        sentences.test(MAC, "NONE for another kind,", CipherSentences::macAnotherKind);
        sentences.test(MAC, "without such a KEY.", CipherSentences::macWithoutKey);
        sentences.test(DERIVE, "KDF of THE KEY, an AES one,", CipherSentences::deriveByKey);
        sentences.test(DERIVE, "c 0 .. 255,", CipherSentences::deriveC);
        sentences.test(DERIVE, "n 1 .. 64;", CipherSentences::deriveN);
        sentences.test(DERIVE, "t is the bytes, at most 100:", CipherSentences::deriveBytes);
        sentences.test(DERIVE, "n, written.", CipherSentences::deriveWritten);
        sentences.test(DERIVE, "NONE otherwise.", CipherSentences::deriveOtherwise);
        sentences.test(HASH, "SHA of the bytes: 32, written.", CipherSentences::hashEach);
    }

    private static boolean fits(int type, int length) {
        return type == 0 ? length == 16 : length == 16 || length == 24 || length == 32;
    }

    private static void keyLengths(Checks checks) {
        for (int type = 0; type <= 1; type++) {
            for (int length = 16; length <= 32; length += 8) {
                if (fits(type, length)) {
                    CipherBox box = Boxes.laid(Boxes.row(length));
                    String what = "key(" + type + ") of " + length;
                    checks.due(what, box.key(type), 1);
                    checks.due(what + ": its type", box.about(2), type);
                    checks.due(what + ": its bytes", box.about(3), length);
                    checks.due(what + ": its cipher", Boxes.code(box, false, false, START),
                        Model.withKey(type, Boxes.row(length)).codeOf(false, false, START));
                }
            }
        }
        CipherBox box = Boxes.withKey(1, Boxes.row(32));
        Boxes.lay(box, DES_KEY);
        checks.due("DES3 after AES", box.key(0), 1);
        checks.due("DES3 after AES", Boxes.code(box, false, false, EIGHT),
            Model.withKey(0, DES_KEY).codeOf(false, false, EIGHT));
        Boxes.lay(box, AES_KEY);
        checks.due("AES after DES3", box.key(1), 1);
        checks.due("AES of 16 after one of 32", Boxes.code(box, false, false, START),
            Model.withKey(1, AES_KEY).codeOf(false, false, START));
    }

    private static void dueKeyStays(Checks checks, String what, CipherBox box, int type, String key) {
        checks.due(what + ": the type stays", box.about(2), type);
        checks.due(what + ": the bytes stay", box.about(3), key.length() / 2);
        checks.due(what + ": the cipher stays", Boxes.code(box, false, false, START),
            Model.withKey(type, key).codeOf(false, false, START));
    }

    private static void keyNoSuchType(Checks checks) {
        int[] types = {-1, 2, 3, 16, -2, Integer.MIN_VALUE, Integer.MIN_VALUE + 1, -256, 256, 257, Integer.MAX_VALUE};
        for (int type : types) {
            for (int length = 16; length <= 32; length += 8) {
                String what = "key(" + type + ") of " + length;
                CipherBox none = Boxes.laid(Boxes.row(length));
                checks.due(what, none.key(type), NONE);
                checks.due(what + ": there is no key", none.about(2), NONE);
                CipherBox des = Boxes.withKey(0, DES_KEY);
                Boxes.lay(des, Boxes.row(length));
                checks.due(what, des.key(type), NONE);
                dueKeyStays(checks, what, des, 0, DES_KEY);
                CipherBox aes = Boxes.withKey(1, AES_KEY + EIGHT);
                Boxes.lay(aes, Boxes.row(length));
                checks.due(what, aes.key(type), NONE);
                dueKeyStays(checks, what, aes, 1, AES_KEY + EIGHT);
            }
        }
    }

    private static void keyNotSoMany(Checks checks) {
        for (int type = 0; type <= 1; type++) {
            for (int length = 0; length <= 64; length++) {
                if (!fits(type, length)) {
                    String what = "key(" + type + ") of " + length;
                    CipherBox none = Boxes.laid(Boxes.row(length));
                    checks.due(what, none.key(type), NONE);
                    checks.due(what + ": there is no key", none.about(2), NONE);
                    checks.due(what + ": there are no key's bytes", none.about(3), 0);
                    CipherBox des = Boxes.withKey(0, DES_KEY);
                    Boxes.lay(des, Boxes.row(length));
                    checks.due(what, des.key(type), NONE);
                    dueKeyStays(checks, what, des, 0, DES_KEY);
                    CipherBox aes = Boxes.withKey(1, AES_KEY);
                    Boxes.lay(aes, Boxes.row(length));
                    checks.due(what, aes.key(type), NONE);
                    dueKeyStays(checks, what, aes, 1, AES_KEY);
                }
            }
            checks.due("key(" + type + ") of 400", Boxes.laid(Boxes.row(400)).key(type), NONE);
        }
    }

    private static void beginSixteen(Checks checks) {
        CipherBox box = Boxes.withKey(1, AES_KEY);
        for (String start : new String[] {START, Boxes.row(16), Boxes.bytes("ff", 16)}) {
            Boxes.lay(box, start);
            checks.due("begin()", box.begin(), 1);
            // A block of 0s, chained, is BEGIN itself by the cipher.
            checks.due("BEGIN " + start, Boxes.code(box, true, false, Boxes.bytes("00", 16)),
                Model.withKey(1, AES_KEY).codeOf(false, false, start));
        }
    }

    private static void beginFirstEight(Checks checks) {
        CipherBox box = Boxes.withKey(0, DES_KEY);
        String want = Model.withKey(0, DES_KEY).codeOf(false, false, EIGHT);
        for (String rest : new String[] {"0000000000000000", "ffffffffffffffff", EIGHT}) {
            Boxes.lay(box, EIGHT + rest);
            checks.due("begin()", box.begin(), 1);
            checks.due("chained", Boxes.code(box, true, false, "0000000000000000"), want);
            checks.due("chained back", Boxes.code(box, true, true, want), "0000000000000000");
        }
        Boxes.setBegin(box, EIGHT + "0000000000000000");
        String retail = Boxes.mac(box, 1, "01");
        Boxes.setBegin(box, EIGHT + "ffffffffffffffff");
        checks.due("RETAIL", Boxes.mac(box, 1, "01"), retail);
    }

    private static void beginNotSixteen(Checks checks) {
        String zeros = Boxes.bytes("00", 16);
        String want = Model.withKey(1, AES_KEY).codeOf(false, false, START);
        for (int length : new int[] {0, 1, 8, 15, 17, 20, 24, 32, 400}) {
            CipherBox box = Boxes.withKey(1, AES_KEY);
            Boxes.setBegin(box, START);
            Boxes.lay(box, Boxes.row(length));
            checks.due("begin() of " + length, box.begin(), NONE);
            checks.due("begin() of " + length + ": BEGIN stays", Boxes.code(box, true, false, zeros), want);
        }
        CipherBox box = Boxes.withKey(1, AES_KEY);
        Boxes.lay(box, Boxes.row(15));
        box.begin();
        checks.due("the 0s stay", Boxes.code(box, true, false, START), want);
    }

    private static CipherBox chainedBox(int type, String key) {
        CipherBox box = Boxes.withKey(type, key);
        Boxes.setBegin(box, START);
        return box;
    }

    private static Model chainedModel(int type, String key) {
        Model model = Model.withKey(type, key);
        model.start = Boxes.bytesOf(START);
        return model;
    }

    private static void codeByAllKeys(Checks checks, boolean chained, boolean back) {
        int[] types = {0, 1, 1, 1};
        String[] keys = {DES_KEY, Boxes.row(16), Boxes.row(24), Boxes.row(32)};
        for (int i = 0; i < types.length; i++) {
            int block = types[i] == 0 ? 8 : 16;
            for (int length : new int[] {block, 2 * block, 3 * block, 384, 400}) {
                CipherBox box = chainedBox(types[i], keys[i]);
                String what = "key of type " + types[i] + ", " + keys[i].length() / 2 + " bytes: code of " + length;
                checks.due(what, Boxes.lay(box, Boxes.row(length)), length);
                checks.due(what, box.code(chained, back), length);
                checks.due(what, Boxes.written(box),
                    chainedModel(types[i], keys[i]).codeOf(chained, back, Boxes.row(length)));
            }
        }
    }

    private static void codeEach(Checks checks) {
        codeByAllKeys(checks, false, false);
    }

    private static void codeChained(Checks checks) {
        codeByAllKeys(checks, true, false);
        CipherBox box = chainedBox(1, AES_KEY);
        String once = Boxes.code(box, true, false, Boxes.row(32));
        checks.due("BEGIN is as before", Boxes.code(box, true, false, Boxes.row(32)), once);
    }

    private static void codeThereAndBack(Checks checks) {
        codeByAllKeys(checks, false, true);
        codeByAllKeys(checks, true, true);
        for (int type = 0; type <= 1; type++) {
            for (boolean chained : new boolean[] {false, true}) {
                CipherBox box = chainedBox(type, DES_KEY);
                Boxes.lay(box, Boxes.row(48));
                checks.due("there", box.code(chained, false), 48);
                box.take();
                checks.due("back", box.code(chained, true), 48);
                checks.due("there and back", Boxes.written(box), Boxes.row(48));
            }
        }
    }

    private static void codeWithoutKey(Checks checks) {
        for (int length : new int[] {0, 8, 16, 24, 32, 400}) {
            for (int way = 0; way < 4; way++) {
                CipherBox box = Boxes.withOut("0102");
                Boxes.lay(box, Boxes.row(length));
                checks.due("code of " + length + " without a key", box.code(way % 2 == 1, way > 1), NONE);
                checks.due("code of " + length + " without a key: the out", Boxes.written(box), "0102");
            }
        }
    }

    private static void codeNotWhole(Checks checks) {
        for (int type = 0; type <= 1; type++) {
            int block = type == 0 ? 8 : 16;
            for (int length : new int[] {0, 1, 4, 7, 8, 9, 12, 15, 16, 17, 23, 24, 25, 31, 33, 40, 392, 393, 399}) {
                boolean whole = length > 0 && length % block == 0;
                for (int way = 0; way < 4; way++) {
                    CipherBox box = Boxes.withKey(type, DES_KEY);
                    Boxes.write(box, "0102");
                    Boxes.lay(box, Boxes.row(length));
                    String what = "code of " + length + " by blocks of " + block;
                    checks.due(what, box.code(way % 2 == 1, way > 1), whole ? length : NONE);
                    checks.due(what + ": the out's bytes", box.about(1), whole ? length : 2);
                }
            }
        }
    }

    private static void padEach(Checks checks) {
        for (int block = 8; block <= 16; block += 8) {
            for (int length : new int[] {0, 1, 7, 8, 9, 15, 16, 17, 383, 384, 391, 392, 399}) {
                int want = (length / block + 1) * block;
                CipherBox box = Boxes.laid(Boxes.row(length));
                checks.due("pad(" + block + ") of " + length, box.pad(block), want);
                checks.due("pad(" + block + ") of " + length, Boxes.written(box),
                    Boxes.row(length) + "80" + Boxes.bytes("00", want - length - 1));
            }
        }
    }

    private static void padAnotherBlock(Checks checks) {
        for (int block = -40; block <= 40; block++) {
            if (block != 8 && block != 16) {
                duePadRefused(checks, block, 3);
            }
        }
        for (int block : FAR) {
            duePadRefused(checks, block, 3);
            duePadRefused(checks, block + 8, 0);
        }
    }

    private static void duePadRefused(Checks checks, int block, int length) {
        CipherBox box = Boxes.withOut("0102");
        Boxes.lay(box, Boxes.row(length));
        checks.due("pad(" + block + ") of " + length, box.pad(block), NONE);
        checks.due("pad(" + block + ") of " + length + ": the out", Boxes.written(box), "0102");
    }

    private static void padTooMany(Checks checks) {
        duePadRefused(checks, 8, 400);
        duePadRefused(checks, 16, 400);
        for (int length : new int[] {391, 392, 399}) {
            checks.due("pad(8) of " + length, Boxes.laid(Boxes.row(length)).pad(8), length == 391 ? 392 : 400);
            checks.due("pad(16) of " + length, Boxes.laid(Boxes.row(length)).pad(16), 400);
        }
    }

    private static void unpadEach(Checks checks) {
        for (int length : new int[] {1, 7, 8, 15, 16, 17, 390, 399}) {
            for (int zeros : new int[] {0, 1, 7, 8, 399 - length}) {
                if (length + 1 + zeros <= 400) {
                    CipherBox box = Boxes.laid(Boxes.row(length) + "80" + Boxes.bytes("00", zeros));
                    box.unpad();
                    checks.due("unpad() to " + length + " from " + zeros + " 0s", Boxes.written(box), Boxes.row(length));
                }
            }
        }
    }

    private static void unpadNoneLeft(Checks checks) {
        for (int zeros : new int[] {0, 1, 7, 15, 16, 399}) {
            CipherBox box = Boxes.withOut("0102");
            Boxes.lay(box, "80" + Boxes.bytes("00", zeros));
            checks.due("unpad() of 128 and " + zeros + " 0s", box.unpad(), 0);
            checks.due("unpad() of 128 and " + zeros + " 0s: the out's bytes", box.about(1), 0);
            checks.due("unpad() of 128 and " + zeros + " 0s: out(0)", box.out(0), NONE);
        }
    }

    private static void unpadCounts(Checks checks) {
        for (int length = 0; length <= 399; length++) {
            CipherBox box = Boxes.laid(Boxes.row(length) + "80");
            checks.due("unpad() to " + length, box.unpad(), length);
            checks.due("unpad() to " + length + ": the out's bytes", box.about(1), length);
        }
    }

    private static void unpadNotPadded(Checks checks) {
        String[] texts = {"", "00", "0000000000000000", Boxes.bytes("00", 400), "01", "8001", "81", "7f00", "c0", "08",
            "0180000001", "010203", Boxes.bytes("80", 399) + "01", "ff" + Boxes.bytes("00", 399)};
        for (String text : texts) {
            CipherBox box = Boxes.withOut("0102");
            Boxes.lay(box, text);
            checks.due("unpad() of " + text, box.unpad(), NONE);
            checks.due("unpad() of " + text + ": the out", Boxes.written(box), "0102");
        }
    }

    private static void macByModel(Checks checks, int kind, int type, String key, int count) {
        for (int length : new int[] {0, 1, 7, 8, 9, 15, 16, 17, 32, 392, 399, 400}) {
            CipherBox box = chainedBox(type, key);
            // What was coded before is of no matter.
            Boxes.code(box, true, false, Boxes.row(16));
            Boxes.lay(box, Boxes.row(length));
            checks.due("mac(" + kind + ") of " + length, box.mac(kind), count);
            checks.due("mac(" + kind + ") of " + length, Boxes.written(box),
                chainedModel(type, key).macOf(kind, Boxes.row(length)));
        }
    }

    private static void macKind0(Checks checks) {
        macByModel(checks, 0, 0, DES_KEY, 8);
    }

    private static void macKind1(Checks checks) {
        macByModel(checks, 1, 0, DES_KEY, 8);
        String want = chainedModel(0, DES_KEY).macOf(1, EIGHT);
        CipherBox box = Boxes.withKey(0, DES_KEY);
        checks.due("another iv gives another", !Boxes.mac(box, 1, EIGHT).equals(want));
        Boxes.setBegin(box, START.substring(0, 16) + "ffffffffffffffff");
        checks.due("BEGIN's first eight alone", Boxes.mac(box, 1, EIGHT), want);
    }

    private static void macKind2(Checks checks) {
        for (int length = 16; length <= 32; length += 8) {
            macByModel(checks, 2, 1, Boxes.row(length), 16);
        }
    }

    private static void dueMacRefused(Checks checks, int kind, CipherBox box) {
        Boxes.write(box, "0102");
        Boxes.lay(box, AES_KEY);
        checks.due("mac(" + kind + ")", box.mac(kind), NONE);
        checks.due("mac(" + kind + "): the out", Boxes.written(box), "0102");
    }

    private static void macAnotherKind(Checks checks) {
        for (int kind : new int[] {-1, -2, 3, 4, Integer.MIN_VALUE, Integer.MIN_VALUE + 1, -256, 256, 257, 258,
            Integer.MAX_VALUE}) {
            dueMacRefused(checks, kind, new CipherBox());
            dueMacRefused(checks, kind, Boxes.withKey(0, DES_KEY));
            dueMacRefused(checks, kind, Boxes.withKey(1, AES_KEY));
        }
    }

    private static void macWithoutKey(Checks checks) {
        for (int kind = 0; kind <= 2; kind++) {
            dueMacRefused(checks, kind, new CipherBox());
        }
        dueMacRefused(checks, 0, Boxes.withKey(1, AES_KEY));
        dueMacRefused(checks, 1, Boxes.withKey(1, AES_KEY));
        dueMacRefused(checks, 2, Boxes.withKey(0, DES_KEY));
        // A key of the other type before counts no more.
        CipherBox box = Boxes.withKey(1, AES_KEY);
        Boxes.lay(box, DES_KEY);
        box.key(0);
        dueMacRefused(checks, 2, box);
    }

    private static void deriveAnswered(Checks checks, CipherBox box, String key, int c, int n, String text) {
        Boxes.lay(box, text);
        String what = "derive(" + c + ", " + n + ") of " + text.length() / 2;
        checks.due(what, box.derive(c, n), n);
        checks.due(what, Boxes.written(box), Model.withKey(1, key).deriveOf(c, n, text));
    }

    private static void dueDeriveRefused(Checks checks, CipherBox box, int c, int n, String text) {
        Boxes.write(box, "0102");
        Boxes.lay(box, text);
        String what = "derive(" + c + ", " + n + ") of " + text.length() / 2;
        checks.due(what, box.derive(c, n), NONE);
        checks.due(what + ": the out", Boxes.written(box), "0102");
    }

    private static void deriveByKey(Checks checks) {
        for (int length = 16; length <= 32; length += 8) {
            String key = Boxes.row(length);
            deriveAnswered(checks, Boxes.withKey(1, key), key, 4, 40, EIGHT);
        }
        dueDeriveRefused(checks, new CipherBox(), 4, 40, EIGHT);
        dueDeriveRefused(checks, Boxes.withKey(0, DES_KEY), 4, 40, EIGHT);
    }

    private static void deriveC(Checks checks) {
        for (int c : new int[] {0, 1, 127, 128, 254, 255}) {
            deriveAnswered(checks, Boxes.withKey(1, AES_KEY), AES_KEY, c, 16, EIGHT);
        }
        for (int c : new int[] {-1, -2, -255, -256, 256, 257, 300, 511, 512, Integer.MIN_VALUE, Integer.MAX_VALUE}) {
            dueDeriveRefused(checks, Boxes.withKey(1, AES_KEY), c, 16, EIGHT);
        }
    }

    private static void deriveN(Checks checks) {
        for (int n = 1; n <= 64; n++) {
            deriveAnswered(checks, Boxes.withKey(1, AES_KEY), AES_KEY, 1, n, EIGHT);
        }
        // Eight times some of these wraps around to a small number.
        int[] wrong = {0, -1, -2, -16, -64, 65, 66, 80, 256, 8192, 1 << 29, (1 << 29) + 1, (1 << 29) + 16, Integer.MIN_VALUE,
            Integer.MIN_VALUE + 16, Integer.MAX_VALUE};
        for (int n : wrong) {
            dueDeriveRefused(checks, Boxes.withKey(1, AES_KEY), 1, n, EIGHT);
        }
    }

    private static void deriveBytes(Checks checks) {
        for (int length : new int[] {0, 1, 15, 16, 17, 99, 100}) {
            deriveAnswered(checks, Boxes.withKey(1, AES_KEY), AES_KEY, 1, 64, Boxes.row(length));
        }
        for (int length : new int[] {101, 102, 116, 399, 400}) {
            dueDeriveRefused(checks, Boxes.withKey(1, AES_KEY), 1, 64, Boxes.row(length));
        }
    }

    private static void deriveWritten(Checks checks) {
        for (int n : new int[] {1, 15, 16, 17, 63, 64}) {
            CipherBox box = Boxes.withKey(1, AES_KEY);
            Boxes.write(box, Boxes.row(99));
            checks.due("derive(0, " + n + ")", box.derive(0, n), n);
            checks.due("the out's bytes", box.about(1), n);
            checks.due("the last of them", box.out(n - 1) != NONE);
            checks.due("none behind it", box.out(n), NONE);
        }
    }

    /** One thing wrong with all else right, and all of it wrong at once. */
    private static void deriveOtherwise(Checks checks) {
        dueDeriveRefused(checks, new CipherBox(), 1, 16, EIGHT);
        dueDeriveRefused(checks, Boxes.withKey(0, DES_KEY), 1, 16, EIGHT);
        dueDeriveRefused(checks, Boxes.withKey(1, AES_KEY), -1, 16, EIGHT);
        dueDeriveRefused(checks, Boxes.withKey(1, AES_KEY), 256, 16, EIGHT);
        dueDeriveRefused(checks, Boxes.withKey(1, AES_KEY), 1, 0, EIGHT);
        dueDeriveRefused(checks, Boxes.withKey(1, AES_KEY), 1, 65, EIGHT);
        dueDeriveRefused(checks, Boxes.withKey(1, AES_KEY), 1, 16, Boxes.row(101));
        dueDeriveRefused(checks, Boxes.withKey(0, DES_KEY), 256, 65, Boxes.row(101));
        deriveAnswered(checks, Boxes.withKey(1, AES_KEY), AES_KEY, 1, 16, EIGHT);
    }

    private static void hashEach(Checks checks) {
        for (int length = 0; length <= 400; length++) {
            CipherBox box = Boxes.withOut(Boxes.row(40));
            Boxes.lay(box, Boxes.row(length));
            checks.due("hash() of " + length, box.hash(), 32);
            checks.due("hash() of " + length, Boxes.written(box), Model.hashOf(Boxes.row(length)));
        }
    }
}
