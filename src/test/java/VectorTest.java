/** Vectors as the standards print them. */
public final class VectorTest {
    private static final Checks CHECKS = new Checks("vectors");

    private static final String BLOCKS = "6bc1bee22e409f96e93d7e117393172a" + "ae2d8a571e03ac9c9eb76fac45af8e51"
        + "30c81c46a35ce411e5fbc1191a0a52ef" + "f69f2445df4f9b17ad2b417be66c3710";
    private static final String KEY_128 = "2b7e151628aed2a6abf7158809cf4f3c";
    private static final String KEY_192 = "8e73b0f7da0e6452c810f32b809079e562f8ead2522c6b7b";
    private static final String KEY_256 = "603deb1015ca71be2b73aef0857d77811f352c073b6108d72d9810a30914dff4";

    public static void main(String[] args) {
        fips197();
        sp38a();
        sp38b();
        des();
        retail();
        sha();
        CHECKS.close();
    }

    private static void thereAndBack(String what, CipherBox box, boolean chained, String plain, String coded) {
        CHECKS.due(what + " there", Checks.code(box, chained, false, plain), coded);
        CHECKS.due(what + " back", Checks.code(box, chained, true, coded), plain);
    }

    private static void fips197() {
        String plain = "00112233445566778899aabbccddeeff";
        String key = "000102030405060708090a0b0c0d0e0f101112131415161718191a1b1c1d1e1f";
        thereAndBack("FIPS 197 C.1", Checks.withKey(1, key.substring(0, 32)), false, plain, "69c4e0d86a7b0430d8cdb78070b4c55a");
        thereAndBack("FIPS 197 C.2", Checks.withKey(1, key.substring(0, 48)), false, plain, "dda97ca4864cdfe06eaf70a0ec0d7191");
        thereAndBack("FIPS 197 C.3", Checks.withKey(1, key), false, plain, "8ea2b7ca516745bfeafc49904b496089");
    }

    private static void sp38a() {
        thereAndBack("SP 800-38A F.1.1", Checks.withKey(1, KEY_128), false, BLOCKS,
            "3ad77bb40d7a3660a89ecaf32466ef97" + "f5d3d58503b9699de785895a96fdbaaf"
            + "43b1cd7f598ece23881b00e3ed030688" + "7b0c785e27e8ad3f8223207104725dd4");
        thereAndBack("SP 800-38A F.2.1", chained(KEY_128), true, BLOCKS,
            "7649abac8119b246cee98e9b12e9197d" + "5086cb9b507219ee95db113a917678b2"
            + "73bed6b8e3c1743b7116e69e22229516" + "3ff1caa1681fac09120eca307586e1a7");
        thereAndBack("SP 800-38A F.2.3", chained(KEY_192), true, BLOCKS,
            "4f021db243bc633d7178183a9fa071e8" + "b4d9ada9ad7dedf4e5e738763f69145a"
            + "571b242012fb7ae07fa9baac3df102e0" + "08b0e27988598881d920a9e64f5615cd");
        thereAndBack("SP 800-38A F.2.5", chained(KEY_256), true, BLOCKS,
            "f58c4c04d6e5f1ba779eabfb5f7bfbd6" + "9cfc4e967edb808d679f777bc6702c7d"
            + "39f23369a9d9bacfa530e26304231461" + "b2eb05e2c39be9fcda6c19078c6a9d1b");
    }

    private static CipherBox chained(String key) {
        CipherBox box = Checks.withKey(1, key);
        Checks.lay(box, "000102030405060708090a0b0c0d0e0f");
        box.begin();
        return box;
    }

    private static void sp38b() {
        String[] keys = {KEY_128, KEY_192, KEY_256};
        int[] lengths = {0, 16, 40, 64};
        String[] tags = {
            "bb1d6929e95937287fa37d129b756746", "070a16b46b4d4144f79bdd9dd04a287c",
            "dfa66747de9ae63030ca32611497c827", "51f0bebf7e3b9d92fc49741779363cfe",
            "d17ddf46adaacde531cac483de7a9367", "9e99a7bf31e710900662f65e617c5184",
            "8a1de5be2eb31aad089a82e6ee908b0e", "a1d5df0eed790f794d77589659f39a11",
            "028962f61b7bf89efc6b551f4667d983", "28a7023f452e8f82bd4bf28d8c37c35c",
            "aaf3d8f1de5640c232f5b169b9c911e6", "e1992190549f6ed5696a2c056c315410",
        };
        for (int i = 0; i < tags.length; i++) {
            CipherBox box = Checks.withKey(1, keys[i / 4]);
            String message = BLOCKS.substring(0, 2 * lengths[i % 4]);
            CHECKS.due("SP 800-38B example " + i, Checks.mac(box, 2, message), tags[i]);
        }
    }

    private static void des() {
        // With both halves alike DES3 is DES: FIPS 81's example.
        CipherBox box = Checks.withKey(0, "0123456789abcdef0123456789abcdef");
        String plain = "4e6f772069732074" + "68652074696d6520" + "666f7220616c6c20";
        thereAndBack("FIPS 81 ECB", box, false, plain, "3fa40e8a984d4815" + "6a271787ab8883f9" + "893d51ec4b563b53");
        Checks.lay(box, "1234567890abcdef" + "ffffffffffffffff");
        box.begin();
        thereAndBack("FIPS 81 CBC", box, true, plain, "e5c7cdde872bf27c" + "43e934008c389c0f" + "683788499a7c05f6");
    }

    private static void retail() {
        // ICAO Doc 9303 part 11, appendix D.3.
        CipherBox box = Checks.withKey(0, "7962d9ece03d1acd4c76089dce131543");
        CHECKS.due("ICAO M_IFD", Checks.mac(box, 1,
            "72c29c2371cc9bdb65b779b8e8d37b29ecc154aa56a8799fae2f498f76ed92f2"), "5f1448eea8ad90a7");
    }

    private static void sha() {
        CHECKS.due("SHA-256 of nothing", hashed(""), "e3b0c44298fc1c149afbf4c8996fb92427ae41e4649b934ca495991b7852b855");
        CHECKS.due("SHA-256 of abc", hashed("616263"), "ba7816bf8f01cfea414140de5dae2223b00361a396177a9cb410ff61f20015ad");
        CHECKS.due("SHA-256 of 56 bytes", hashed("6162636462636465636465666465666765666768666768696768696a68696a6b"
            + "696a6b6c6a6b6c6d6b6c6d6e6c6d6e6f6d6e6f706e6f7071"),
            "248d6a61d20638b8e5c026930c3e6039a33ce45964ff2167f6ecedd419db06c1");
    }

    private static String hashed(String hex) {
        CipherBox box = new CipherBox();
        Checks.lay(box, hex);
        box.hash();
        return Checks.written(box);
    }
}
