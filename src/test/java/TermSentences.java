/** The terms that all promises use. */
final class TermSentences {
    private static final int NONE = CipherBox.NONE;
    private static final String TERMS = "Terms";
    private static final String DES_KEY = "0123456789abcdeffedcba9876543210";
    private static final String FIRST_KEY = DES_KEY.substring(0, 16);
    private static final String LAST_KEY = DES_KEY.substring(16);
    private static final String AES_KEY = "000102030405060708090a0b0c0d0e0f";
    private static final String BEGIN = "00112233445566778899aabbccddeeff";
    private static final String ZEROS = "0000000000000000";
    private static final int[] LENGTHS = {0, 1, 7, 8, 9, 15, 16, 17, 391, 392, 393, 399, 400};

    /** A call on a box, and what it answers. */
    private interface Call {
        int on(CipherBox box);
    }

    private TermSentences() {
    }

    static void testAll(Sentences sentences) {
        sentences.test(TERMS, "BYTES are 0 .. 255;", TermSentences::bytes);
        sentences.test(TERMS, "numbers of several bytes have the highest first.", TermSentences::highestFirst);
        sentences.test(TERMS, "THE TAPE has at most 400 bytes;", TermSentences::tapeAtMost400);
        sentences.test(TERMS, "every call but feed(), end(), out(), about() and take() uses it up: it is empty then,"
            + " whatever they answer.", TermSentences::tapeIsUsedUp);
        sentences.test(TERMS, "THE OUT is what was written latest (at first nothing);", TermSentences::outIsLatest);
        sentences.test(TERMS, "what answers NONE leaves it.", TermSentences::noneLeavesOut);
        sentences.test(TERMS, "DES3 by 16 bytes K: DES by the first eight, back by the last eight, DES by the first eight",
            TermSentences::des3);
        sentences.test(TERMS, "(the lowest bit of a key's byte is of no matter).", TermSentences::lowestBit);
        sentences.test(TERMS, "PADDED for a block of n: byte 128 comes behind, then 0s up to a multiple of n.",
            TermSentences::padded);
        sentences.test(TERMS, "UNPADDED: what is ahead of the last byte that is not 0, which must be 128.",
            TermSentences::unpadded);
        sentences.test(TERMS, "MAC3(K, t): the last block of t PADDED for 8, by DES3 in CBC from 0s.", TermSentences::mac3);
        sentences.test(TERMS, "RETAIL(K, iv, t): t PADDED for 8, by DES with K's first eight in CBC from iv;"
            + " the last block then back with K's last eight, and DES with its first eight.", TermSentences::retail);
        sentences.test(TERMS, "KDF(K, c, n, t): the first n bytes of CMAC(K, x1), CMAC(K, x2), ..;", TermSentences::kdf);
        sentences.test(TERMS, "xi is 11 bytes 0, c, 0, 8 * n as two bytes, i, t.", TermSentences::kdfRows);
        sentences.test(TERMS, "At first there is no KEY;", TermSentences::noKeyAtFirst);
        sentences.test(TERMS, "BEGIN is sixteen 0s.", TermSentences::beginAtFirst);
    }

    private static void bytes(Checks checks) {
        CipherBox box = new CipherBox();
        for (int i = 0; i < 256; i += 20) {
            box.feed(four(i), four(i + 4), four(i + 8), four(i + 12), four(i + 16));
        }
        box.end(256);
        box.pad(8);
        for (int i = 0; i < 256; i++) {
            checks.due("byte " + i, box.out(i), i);
        }
    }

    private static int four(int i) {
        return i << 24 | (i + 1 & 255) << 16 | (i + 2 & 255) << 8 | i + 3 & 255;
    }

    private static void highestFirst(Checks checks) {
        CipherBox box = new CipherBox();
        box.feed(0x01020304, 0x80000000, 0x000000ff, -2, 0x7fffffff);
        checks.due("five ints", Boxes.tape(box), "01020304" + "80000000" + "000000ff" + "fffffffe" + "7fffffff");
        // 8 * 33 has two bytes that differ.
        CipherBox aes = Boxes.withKey(1, AES_KEY);
        String want = Boxes.mac(aes, 2, Boxes.bytes("00", 11) + "07" + "00" + "0108" + "01");
        aes.derive(7, 33);
        checks.due("the bits of a derived key", Boxes.written(aes).substring(0, 32), want);
        // The count of bits at a hash's end, 2400, has two bytes that differ.
        checks.due("the bits of a hashed text", Boxes.hash(Boxes.row(300)), Model.hashOf(Boxes.row(300)));
    }

    private static void tapeAtMost400(Checks checks) {
        CipherBox box = Boxes.withOut("aa");
        for (int i = 1; i <= 20; i++) {
            checks.due("feed " + i, box.feed(i, i, i, i, i), 20 * i);
        }
        checks.due("feed on a full tape", box.feed(1, 1, 1, 1, 1), NONE);
        checks.due("take on a full tape", box.take(), NONE);
        checks.due("a full tape", box.about(0), 400);
        checks.due("end(400)", box.end(400), 400);
        checks.due("end(399)", box.end(399), 399);
        checks.due("take to a full tape", box.take(), 400);
        checks.due("a full tape again", box.about(0), 400);
        checks.due("end(401)", box.end(401), NONE);
    }

    private static void tapeIsUsedUp(Checks checks) {
        Call[] users = {box -> box.key(0), box -> box.key(1), box -> box.key(2), box -> box.begin(),
            box -> box.code(false, false), box -> box.code(false, true), box -> box.code(true, false),
            box -> box.code(true, true), box -> box.pad(8), box -> box.pad(16), box -> box.pad(9), box -> box.unpad(),
            box -> box.mac(0), box -> box.mac(1), box -> box.mac(2), box -> box.mac(3), box -> box.derive(1, 16),
            box -> box.derive(1, 0), box -> box.derive(256, 16), box -> box.hash(), box -> box.same()};
        String[] texts = {"01", Boxes.row(15) + "80", Boxes.bytes("80", 16), Boxes.row(101), Boxes.bytes("ee", 400)};
        for (int i = 0; i < users.length; i++) {
            for (String text : texts) {
                CipherBox[] boxes = {new CipherBox(), Boxes.withKey(0, DES_KEY), Boxes.withKey(1, AES_KEY)};
                for (CipherBox box : boxes) {
                    Boxes.lay(box, text);
                    int answer = users[i].on(box);
                    String what = "call " + i + " of " + text.length() / 2 + " bytes, which answered " + answer;
                    checks.due(what + ": the tape", box.about(0), 0);
                    checks.due(what + ": the next feed", box.feed(0, 0, 0, 0, 0), 20);
                }
            }
        }
        othersLeaveTape(checks);
    }

    private static void othersLeaveTape(Checks checks) {
        Call[] others = {box -> box.feed(1, 2, 3, 4, 5), box -> box.end(400), box -> box.end(-1), box -> box.out(0),
            box -> box.out(-1), box -> box.about(0), box -> box.about(4), box -> box.about(9), box -> box.take()};
        for (int i = 0; i < others.length; i++) {
            CipherBox box = Boxes.withOut("aabbcc");
            Boxes.lay(box, Boxes.row(399));
            others[i].on(box);
            checks.due("other call " + i + " leaves the tape", Boxes.tape(box), Boxes.row(399));
        }
    }

    private static void outIsLatest(Checks checks) {
        CipherBox box = new CipherBox();
        checks.due("at first", box.about(1), 0);
        checks.due("at first: out(0)", box.out(0), NONE);
        Call[] writers = {CipherBox::hash, one -> one.pad(8), one -> one.pad(16), CipherBox::unpad,
            one -> one.code(false, false), one -> one.code(true, false), one -> one.code(false, true),
            one -> one.code(true, true), one -> one.mac(2), one -> one.derive(1, 40), one -> one.derive(1, 5)};
        int[] want = {32, 24, 32, 15, 16, 16, 16, 16, 16, 40, 5};
        CipherBox aes = Boxes.withKey(1, AES_KEY);
        for (int i = 0; i < writers.length; i++) {
            Boxes.write(aes, Boxes.bytes("aa", i % 2 == 0 ? 3 : 50));
            Boxes.lay(aes, Boxes.row(15) + "80");
            checks.due("writer " + i, writers[i].on(aes), want[i]);
            checks.due("writer " + i + ": bytes", aes.about(1), want[i]);
            checks.due("writer " + i + ": first byte is another", aes.out(0) != 0xaa);
            checks.due("writer " + i + ": no byte behind", aes.out(want[i]), NONE);
        }
        othersLeaveOut(checks);
    }

    /** Calls that are answered but write nothing. */
    private static void othersLeaveOut(Checks checks) {
        Call[] others = {box -> box.feed(1, 2, 3, 4, 5), box -> box.end(7), box -> box.out(1), CipherBox::take,
            box -> box.key(0), box -> box.key(1), CipherBox::begin, CipherBox::same, box -> box.about(1)};
        CipherBox box = Boxes.withOut("aabbcc");
        for (int i = 0; i < others.length; i++) {
            Boxes.lay(box, AES_KEY);
            checks.due("other call " + i + " is answered", others[i].on(box) != NONE);
            checks.due("other call " + i + " leaves the out", Boxes.written(box), "aabbcc");
            box.end(0);
        }
    }

    private static void noneLeavesOut(Checks checks) {
        Call[] refused = {box -> box.end(401), box -> box.end(-1), box -> box.out(-1), box -> box.out(3),
            box -> box.feed(1, 2, 3, 4, 5), CipherBox::take, box -> box.about(5), box -> box.about(-1),
            box -> box.key(0), box -> box.key(1), box -> box.key(2), CipherBox::begin, CipherBox::unpad,
            box -> box.pad(8), box -> box.pad(16), box -> box.pad(4), box -> box.mac(3), box -> box.mac(-1),
            box -> box.derive(1, 16), box -> box.derive(-1, 16), box -> box.derive(1, 65)};
        for (int i = 0; i < refused.length; i++) {
            CipherBox[] boxes = {new CipherBox(), Boxes.withKey(0, DES_KEY), Boxes.withKey(1, AES_KEY)};
            for (CipherBox box : boxes) {
                Boxes.write(box, "aabbcc");
                checks.due("a full tape", Boxes.lay(box, Boxes.bytes("55", 400)), 400);
                checks.due("refused call " + i, refused[i].on(box), NONE);
                checks.due("refused call " + i + " leaves the out", Boxes.written(box), "aabbcc");
            }
        }
        refusedByKeyLeavesOut(checks);
    }

    /** Refused for want of a key, or of whole blocks. */
    private static void refusedByKeyLeavesOut(Checks checks) {
        Call[] calls = {box -> box.code(false, false), box -> box.code(true, true), box -> box.mac(0), box -> box.mac(1),
            box -> box.mac(2), box -> box.derive(1, 16)};
        boolean[][] refused = {{true, true, true, true, true, true}, {true, true, false, false, true, true},
            {true, true, true, true, false, false}};
        for (int key = 0; key < 3; key++) {
            CipherBox box = key == 0 ? new CipherBox() : Boxes.withKey(key - 1, AES_KEY);
            Boxes.write(box, "aabbcc");
            for (int i = 0; i < calls.length; i++) {
                if (refused[key][i]) {
                    Boxes.lay(box, Boxes.row(9));
                    checks.due("key " + key + ", call " + i, calls[i].on(box), NONE);
                    checks.due("key " + key + ", call " + i + " leaves the out", Boxes.written(box), "aabbcc");
                }
            }
        }
    }

    private static void des3(Checks checks) {
        for (String plain : new String[] {ZEROS, "ffffffffffffffff", "4e6f772069732074", "8000000000000001"}) {
            String once = Model.des(FIRST_KEY, null, false, plain);
            String twice = Model.des(LAST_KEY, null, true, once);
            String coded = Model.des(FIRST_KEY, null, false, twice);
            checks.due("there of " + plain, Boxes.code(Boxes.withKey(0, DES_KEY), false, false, plain), coded);
            checks.due("back of " + coded, Boxes.code(Boxes.withKey(0, DES_KEY), false, true, coded), plain);
        }
    }

    private static void lowestBit(Checks checks) {
        String text = Boxes.row(24);
        for (boolean chained : new boolean[] {false, true}) {
            for (boolean back : new boolean[] {false, true}) {
                checks.due("code(" + chained + ", " + back + ")", Boxes.code(keyMixed(1), chained, back, text),
                    Boxes.code(keyMixed(0), chained, back, text));
            }
        }
        for (int kind = 0; kind < 2; kind++) {
            checks.due("mac(" + kind + ")", Boxes.mac(keyMixed(1), kind, text), Boxes.mac(keyMixed(0), kind, text));
        }
        for (int bit = 2; bit < 256; bit *= 2) {
            checks.due("bit " + bit + " is of matter", !Boxes.code(keyMixed(bit), false, false, text)
                .equals(Boxes.code(keyMixed(0), false, false, text)));
        }
    }

    private static CipherBox keyMixed(int bits) {
        byte[] key = Boxes.bytesOf(DES_KEY);
        for (int i = 0; i < key.length; i++) {
            key[i] ^= (byte) bits;
        }
        return Boxes.withKey(0, Boxes.hexOf(key));
    }

    private static void padded(Checks checks) {
        for (int block = 8; block <= 16; block += 8) {
            for (int length = 0; length <= 49; length++) {
                int zeros = (2 * block - 1 - length % block) % block;
                CipherBox box = Boxes.laid(Boxes.row(length));
                box.pad(block);
                checks.due("pad(" + block + ") of " + length, Boxes.written(box),
                    Boxes.row(length) + "80" + Boxes.bytes("00", zeros));
            }
        }
    }

    private static void unpadded(Checks checks) {
        String[] texts = {"80", "", "01800000", "01", "8080", "80", "0080", "00", "800180", "8001", "0102800080", "01028000",
            "018000000000000000", "01", Boxes.row(16) + "80" + Boxes.bytes("00", 15), Boxes.row(16)};
        for (int i = 0; i < texts.length; i += 2) {
            CipherBox box = Boxes.laid(texts[i]);
            checks.due("unpad() of " + texts[i], box.unpad(), texts[i + 1].length() / 2);
            checks.due("unpad() of " + texts[i], Boxes.written(box), texts[i + 1]);
        }
        for (String last : new String[] {"01", "7f", "81", "88", "40", "ff"}) {
            checks.due("unpad() of 80" + last, Boxes.laid("80" + last).unpad(), NONE);
            checks.due("unpad() of 80" + last + "00", Boxes.laid("80" + last + "00").unpad(), NONE);
        }
    }

    private static String paddedFor8(String hex) {
        String made = hex + "80";
        return made + Boxes.bytes("00", (8 - made.length() / 2 % 8) % 8);
    }

    private static String lastEight(String hex) {
        return hex.substring(hex.length() - 16);
    }

    private static void mac3(Checks checks) {
        for (int length : LENGTHS) {
            String text = Boxes.row(length);
            CipherBox box = Boxes.withKey(0, DES_KEY);
            Boxes.setBegin(box, BEGIN);
            String want = lastEight(Model.withKey(0, DES_KEY).codeOf(true, false, paddedFor8(text)));
            checks.due("MAC3 of " + length, Boxes.mac(box, 0, text), want);
            checks.due("MAC3 of " + length + ", from 0s again", Boxes.mac(box, 0, text), want);
        }
    }

    private static void retail(Checks checks) {
        String iv = BEGIN.substring(0, 16);
        for (int length : LENGTHS) {
            String text = Boxes.row(length);
            CipherBox box = Boxes.withKey(0, DES_KEY);
            Boxes.setBegin(box, BEGIN);
            String link = lastEight(Model.des(FIRST_KEY, iv, false, paddedFor8(text)));
            String want = Model.des(FIRST_KEY, null, false, Model.des(LAST_KEY, null, true, link));
            checks.due("RETAIL of " + length, Boxes.mac(box, 1, text), want);
            checks.due("RETAIL of " + length + ", from iv again", Boxes.mac(box, 1, text), want);
        }
    }

    private static void kdf(Checks checks) {
        for (int n = 1; n <= 64; n++) {
            CipherBox box = Boxes.withKey(1, Boxes.row(24));
            Boxes.lay(box, Boxes.row(5));
            box.derive(9, n);
            checks.due("KDF for " + n, Boxes.written(box), Model.withKey(1, Boxes.row(24)).deriveOf(9, n, Boxes.row(5)));
        }
    }

    /** By mac(2) over the rows, each written out; 31 and 32 are where the bits go over one byte. */
    private static void kdfRows(Checks checks) {
        for (int n : new int[] {1, 16, 31, 32, 64}) {
            CipherBox box = Boxes.withKey(1, AES_KEY);
            String bits = String.format("%04x", 8 * n);
            StringBuilder want = new StringBuilder();
            for (int i = 1; i <= 4; i++) {
                want.append(Boxes.mac(box, 2, Boxes.bytes("00", 11) + "fe" + "00" + bits + "0" + i + Boxes.row(20)));
            }
            Boxes.lay(box, Boxes.row(20));
            box.derive(254, n);
            checks.due("rows for " + n, Boxes.written(box), want.substring(0, 2 * n));
        }
    }

    private static void noKeyAtFirst(Checks checks) {
        checks.due("type", new CipherBox().about(2), NONE);
        checks.due("bytes", new CipherBox().about(3), 0);
        Call[] calls = {box -> box.code(false, false), box -> box.code(true, true), box -> box.mac(0), box -> box.mac(1),
            box -> box.mac(2), box -> box.derive(1, 16)};
        for (int i = 0; i < calls.length; i++) {
            checks.due("call " + i + " without a key", calls[i].on(Boxes.laid(AES_KEY)), NONE);
        }
    }

    private static void beginAtFirst(Checks checks) {
        CipherBox aes = Boxes.withKey(1, AES_KEY);
        checks.due("AES there", Boxes.code(aes, true, false, BEGIN), Boxes.code(aes, false, false, BEGIN));
        checks.due("AES back", Boxes.code(aes, true, true, BEGIN), Boxes.code(aes, false, true, BEGIN));
        CipherBox des = Boxes.withKey(0, DES_KEY);
        checks.due("DES3", Boxes.code(des, true, false, ZEROS), Boxes.code(des, false, false, ZEROS));
        String retail = Boxes.mac(des, 1, "0102");
        Boxes.setBegin(des, ZEROS + ZEROS);
        checks.due("RETAIL", Boxes.mac(des, 1, "0102"), retail);
    }
}
