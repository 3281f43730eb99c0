/** The terms that name a standard, by vectors that the standards print. */
final class StandardSentences {
    private static final String TERMS = "Terms";
    private static final String BLOCKS = "6bc1bee22e409f96e93d7e117393172a" + "ae2d8a571e03ac9c9eb76fac45af8e51"
        + "30c81c46a35ce411e5fbc1191a0a52ef" + "f69f2445df4f9b17ad2b417be66c3710";
    private static final String KEY_128 = "2b7e151628aed2a6abf7158809cf4f3c";
    private static final String KEY_192 = "8e73b0f7da0e6452c810f32b809079e562f8ead2522c6b7b";
    private static final String KEY_256 = "603deb1015ca71be2b73aef0857d77811f352c073b6108d72d9810a30914dff4";
    private static final String DES_PLAIN = "4e6f772069732074" + "68652074696d6520" + "666f7220616c6c20";
    // With both halves alike DES3 is DES.
    private static final String DES_KEY = "0123456789abcdef0123456789abcdef";

    private StandardSentences() {
    }

    static void testAll(Sentences sentences) {
        sentences.test(TERMS, "All of it byte by byte as the standards have it.", StandardSentences::byteByByte);
        sentences.test(TERMS, "CIPHERS: DES, AES (FIPS 46-3, 197).", StandardSentences::ciphers);
        sentences.test(TERMS, "ECB, CBC: SP 800-38A.", StandardSentences::modes);
        sentences.test(TERMS, "CMAC(K, t): SP 800-38B with AES (16 bytes).", StandardSentences::cmac);
        sentences.test(TERMS, "RETAIL(K, iv, t): t PADDED for 8, by DES with K's first eight in CBC from iv;"
            + " the last block then back with K's last eight, and DES with its first eight.", StandardSentences::retail);
        sentences.test(TERMS, "SHA: SHA-256 (FIPS 180-4).", StandardSentences::sha);
    }

    private static void thereAndBack(Checks checks, CipherBox box, boolean chained, String plain, String coded) {
        checks.due("there", Boxes.code(box, chained, false, plain), coded);
        checks.due("back", Boxes.code(box, chained, true, coded), plain);
    }

    /** Each byte of an answer by itself, none ahead of the first and none behind the last. */
    private static void byteByByte(Checks checks) {
        int[] want = {0xba, 0x78, 0x16, 0xbf, 0x8f, 0x01, 0xcf, 0xea, 0x41, 0x41, 0x40, 0xde, 0x5d, 0xae, 0x22, 0x23,
            0xb0, 0x03, 0x61, 0xa3, 0x96, 0x17, 0x7a, 0x9c, 0xb4, 0x10, 0xff, 0x61, 0xf2, 0x00, 0x15, 0xad};
        CipherBox box = Boxes.laid("616263");
        box.hash();
        for (int i = 0; i < want.length; i++) {
            checks.due("SHA-256 of abc, out(" + i + ")", box.out(i), want[i]);
        }
        checks.due("out(-1)", box.out(-1), CipherBox.NONE);
        checks.due("out(32)", box.out(32), CipherBox.NONE);
    }

    private static void ciphers(Checks checks) {
        String plain = "00112233445566778899aabbccddeeff";
        String key = "000102030405060708090a0b0c0d0e0f101112131415161718191a1b1c1d1e1f";
        thereAndBack(checks, Boxes.withKey(1, key.substring(0, 32)), false, plain, "69c4e0d86a7b0430d8cdb78070b4c55a");
        thereAndBack(checks, Boxes.withKey(1, key.substring(0, 48)), false, plain, "dda97ca4864cdfe06eaf70a0ec0d7191");
        thereAndBack(checks, Boxes.withKey(1, key), false, plain, "8ea2b7ca516745bfeafc49904b496089");
        thereAndBack(checks, Boxes.withKey(0, DES_KEY), false, DES_PLAIN,
            "3fa40e8a984d4815" + "6a271787ab8883f9" + "893d51ec4b563b53");
    }

    private static void modes(Checks checks) {
        thereAndBack(checks, Boxes.withKey(1, KEY_128), false, BLOCKS,
            "3ad77bb40d7a3660a89ecaf32466ef97" + "f5d3d58503b9699de785895a96fdbaaf"
            + "43b1cd7f598ece23881b00e3ed030688" + "7b0c785e27e8ad3f8223207104725dd4");
        thereAndBack(checks, chained(1, KEY_128), true, BLOCKS,
            "7649abac8119b246cee98e9b12e9197d" + "5086cb9b507219ee95db113a917678b2"
            + "73bed6b8e3c1743b7116e69e22229516" + "3ff1caa1681fac09120eca307586e1a7");
        thereAndBack(checks, chained(1, KEY_192), true, BLOCKS,
            "4f021db243bc633d7178183a9fa071e8" + "b4d9ada9ad7dedf4e5e738763f69145a"
            + "571b242012fb7ae07fa9baac3df102e0" + "08b0e27988598881d920a9e64f5615cd");
        thereAndBack(checks, chained(1, KEY_256), true, BLOCKS,
            "f58c4c04d6e5f1ba779eabfb5f7bfbd6" + "9cfc4e967edb808d679f777bc6702c7d"
            + "39f23369a9d9bacfa530e26304231461" + "b2eb05e2c39be9fcda6c19078c6a9d1b");
        // FIPS 81's example of CBC.
        CipherBox des = Boxes.withKey(0, DES_KEY);
        Boxes.setBegin(des, "1234567890abcdef" + "ffffffffffffffff");
        thereAndBack(checks, des, true, DES_PLAIN, "e5c7cdde872bf27c" + "43e934008c389c0f" + "683788499a7c05f6");
    }

    private static CipherBox chained(int type, String key) {
        CipherBox box = Boxes.withKey(type, key);
        Boxes.setBegin(box, "000102030405060708090a0b0c0d0e0f");
        return box;
    }

    private static void cmac(Checks checks) {
        String[] keys = {KEY_128, KEY_192, KEY_256};
        int[] lengths = {0, 16, 40, 64};
        String[] tags = {
            "bb1d6929e95937287fa37d129b756746", "070a16b46b4d4144f79bdd9dd04a287c",
            "dfa66747de9ae63030ca32611497c827", "51f0bebf7e3b9d92fc49741779363cfe",
            "d17ddf46adaacde531cac483de7a9367", "9e99a7bf31e710900662f65e617c5184",
            "8a1de5be2eb31aad089a82e6ee908b0e", "a1d5df0eed790f794d77589659f39a11",
            "028962f61b7bf89efc6b551f4667d983", "28a7023f452e8f82bd4bf28d8c37c35c",
            "aaf3d8f1de5640c232f5b169b9c911e6", "e1992190549f6ed5696a2c056c315410",
        };
        for (int i = 0; i < tags.length; i++) {
            CipherBox box = Boxes.withKey(1, keys[i / 4]);
            String message = BLOCKS.substring(0, 2 * lengths[i % 4]);
            checks.due("SP 800-38B example " + i, Boxes.mac(box, 2, message), tags[i]);
        }
        // A subkey's doubling wraps around or not, as the key will: of twenty keys some do each.
        for (int i = 0; i < 20; i++) {
            String key = Boxes.bytes(String.format("%02x", i), 16);
            for (int length : new int[] {0, 1, 15, 16, 17, 31, 32, 33, 399, 400}) {
                checks.due("CMAC of " + length + " by " + key, Boxes.mac(Boxes.withKey(1, key), 2, Boxes.row(length)),
                    Model.withKey(1, key).macOf(2, Boxes.row(length)));
            }
        }
    }

    private static void retail(Checks checks) {
        // ICAO Doc 9303 part 11, appendix D.3.
        CipherBox box = Boxes.withKey(0, "7962d9ece03d1acd4c76089dce131543");
        checks.due("ICAO M_IFD", Boxes.mac(box, 1, "72c29c2371cc9bdb65b779b8e8d37b29ecc154aa56a8799fae2f498f76ed92f2"),
            "5f1448eea8ad90a7");
    }

    private static void sha(Checks checks) {
        checks.due("of nothing", Boxes.hash(""), "e3b0c44298fc1c149afbf4c8996fb92427ae41e4649b934ca495991b7852b855");
        checks.due("of abc", Boxes.hash("616263"), "ba7816bf8f01cfea414140de5dae2223b00361a396177a9cb410ff61f20015ad");
        checks.due("of 56 bytes", Boxes.hash("6162636462636465636465666465666765666768666768696768696a68696a6b"
            + "696a6b6c6a6b6c6d6b6c6d6e6c6d6e6f6d6e6f706e6f7071"),
            "248d6a61d20638b8e5c026930c3e6039a33ce45964ff2167f6ecedd419db06c1");
        // From 55 to 56 bytes, and again 64 further on, the padding needs one more block.
        for (int length : new int[] {54, 55, 56, 57, 63, 64, 65, 118, 119, 120, 127, 128, 129}) {
            checks.due("of " + length + " bytes", Boxes.hash(Boxes.row(length)), Model.hashOf(Boxes.row(length)));
        }
    }
}
