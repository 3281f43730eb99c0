import java.math.BigInteger;
import java.security.GeneralSecurityException;
import java.security.MessageDigest;
import java.util.Arrays;
import javax.crypto.Cipher;
import javax.crypto.spec.IvParameterSpec;
import javax.crypto.spec.SecretKeySpec;

/** What the document asks, told a second time with the Java library's ciphers. */
final class Model {
    private static final int NONE = -1;

    byte[] tape = {};
    byte[] written = {};
    byte[] start = new byte[16];
    byte[] key = {};
    int type = NONE;

    static Model withKey(int type, String hex) {
        Model model = new Model();
        model.tape = Boxes.bytesOf(hex);
        model.key(type);
        return model;
    }

    String macOf(int kind, String hex) {
        tape = Boxes.bytesOf(hex);
        mac(kind);
        return Boxes.hexOf(written);
    }

    String codeOf(boolean chained, boolean back, String hex) {
        tape = Boxes.bytesOf(hex);
        code(chained, back);
        return Boxes.hexOf(written);
    }

    String deriveOf(int c, int n, String hex) {
        tape = Boxes.bytesOf(hex);
        derive(c, n);
        return Boxes.hexOf(written);
    }

    static String hashOf(String hex) {
        Model model = new Model();
        model.tape = Boxes.bytesOf(hex);
        model.hash();
        return Boxes.hexOf(model.written);
    }

    /** One DES by a key of eight bytes, in CBC if there is an iv. */
    static String des(String key, String iv, boolean back, String hex) {
        byte[] from = iv == null ? null : Boxes.bytesOf(iv);
        return Boxes.hexOf(run("DES", Boxes.bytesOf(key), from, back, Boxes.bytesOf(hex)));
    }

    private static byte[] join(byte[]... parts) {
        byte[] made = {};
        for (byte[] part : parts) {
            int before = made.length;
            made = Arrays.copyOf(made, before + part.length);
            System.arraycopy(part, 0, made, before, part.length);
        }
        return made;
    }

    private static byte[] padded(byte[] text, int block) {
        int length = text.length + 1;
        while (length % block != 0) {
            length++;
        }
        byte[] made = Arrays.copyOf(text, length);
        made[text.length] = (byte) 128;
        return made;
    }

    private static byte[] run(String name, byte[] key, byte[] iv, boolean back, byte[] text) {
        try {
            String mode = iv == null ? "/ECB/NoPadding" : "/CBC/NoPadding";
            Cipher cipher = Cipher.getInstance(name + mode);
            int way = back ? Cipher.DECRYPT_MODE : Cipher.ENCRYPT_MODE;
            SecretKeySpec spec = new SecretKeySpec(key, name);
            if (iv == null) {
                cipher.init(way, spec);
            } else {
                cipher.init(way, spec, new IvParameterSpec(iv));
            }
            return cipher.doFinal(text);
        } catch (GeneralSecurityException problem) {
            throw new IllegalStateException(problem);
        }
    }

    private byte[] byKey(byte[] iv, boolean back, byte[] text) {
        if (type == 1) {
            return run("AES", key, iv, back, text);
        }
        byte[] three = join(key, Arrays.copyOf(key, 8));
        return run("DESede", three, iv == null ? null : Arrays.copyOf(iv, 8), back, text);
    }

    private byte[] used() {
        byte[] text = tape;
        tape = new byte[0];
        return text;
    }

    private int write(byte[] text) {
        written = text;
        return text.length;
    }

    int feed(int a, int b, int c, int d, int e) {
        byte[] more = new byte[20];
        int[] words = {a, b, c, d, e};
        for (int i = 0; i < 20; i++) {
            more[i] = (byte) (words[i / 4] >> (24 - 8 * (i % 4)));
        }
        return append(more);
    }

    private int append(byte[] more) {
        if (tape.length + more.length > 400) {
            return NONE;
        }
        tape = join(tape, more);
        return tape.length;
    }

    int end(int n) {
        if (n < 0 || n > tape.length) {
            return NONE;
        }
        tape = Arrays.copyOf(tape, n);
        return n;
    }

    int out(int i) {
        return i < 0 || i >= written.length ? NONE : written[i] & 255;
    }

    int take() {
        return append(written);
    }

    int key(int newType) {
        byte[] text = used();
        int n = text.length;
        boolean fits = newType == 0 ? n == 16 : newType == 1 && (n == 16 || n == 24 || n == 32);
        if (!fits) {
            return NONE;
        }
        key = text;
        type = newType;
        return 1;
    }

    int begin() {
        byte[] text = used();
        if (text.length != 16) {
            return NONE;
        }
        start = text;
        return 1;
    }

    int code(boolean chained, boolean back) {
        byte[] text = used();
        int block = type == 0 ? 8 : 16;
        if (type == NONE || text.length == 0 || text.length % block != 0) {
            return NONE;
        }
        return write(byKey(chained ? start : null, back, text));
    }

    int pad(int block) {
        byte[] text = used();
        if (block != 8 && block != 16) {
            return NONE;
        }
        byte[] made = padded(text, block);
        return made.length > 400 ? NONE : write(made);
    }

    int unpad() {
        byte[] text = used();
        int n = text.length;
        while (n > 0 && text[n - 1] == 0) {
            n--;
        }
        return n == 0 || text[n - 1] != (byte) 128 ? NONE : write(Arrays.copyOf(text, n - 1));
    }

    int mac(int kind) {
        byte[] text = used();
        if (kind == 2) {
            return type == 1 ? write(cmac(text)) : NONE;
        }
        if (kind < 0 || kind > 2 || type != 0) {
            return NONE;
        }
        byte[] full = padded(text, 8);
        return write(kind == 0 ? lastOf(byKey(new byte[16], false, full)) : retail(full));
    }

    private static byte[] lastOf(byte[] text) {
        return Arrays.copyOfRange(text, text.length - 8, text.length);
    }

    private byte[] retail(byte[] full) {
        byte[] first = Arrays.copyOf(key, 8);
        byte[] last = Arrays.copyOfRange(key, 8, 16);
        byte[] link = lastOf(run("DES", first, Arrays.copyOf(start, 8), false, full));
        return run("DES", first, null, false, run("DES", last, null, true, link));
    }

    private byte[] cmac(byte[] text) {
        BigInteger subkey = twice(new BigInteger(1, run("AES", key, null, false, new byte[16])));
        byte[] full = text;
        if (text.length == 0 || text.length % 16 != 0) {
            subkey = twice(subkey);
            full = padded(text, 16);
        }
        full = full.clone();
        for (int i = 0; i < 16; i++) {
            full[full.length - 1 - i] ^= (byte) subkey.shiftRight(8 * i).intValue();
        }
        byte[] coded = run("AES", key, new byte[16], false, full);
        return Arrays.copyOfRange(coded, coded.length - 16, coded.length);
    }

    private static BigInteger twice(BigInteger value) {
        BigInteger made = value.shiftLeft(1);
        return made.testBit(128) ? made.clearBit(128).xor(BigInteger.valueOf(0x87)) : made;
    }

    int derive(int c, int n) {
        byte[] text = used();
        if (type != 1 || c < 0 || c > 255 || n < 1 || n > 64 || text.length > 100) {
            return NONE;
        }
        byte[] made = {};
        for (int i = 1; made.length < n; i++) {
            byte[] head = {0, 0, 0, 0, 0, 0, 0, 0, 0, 0, 0, (byte) c, 0, (byte) (8 * n / 256), (byte) (8 * n % 256), (byte) i};
            made = join(made, cmac(join(head, text)));
        }
        return write(Arrays.copyOf(made, n));
    }

    int hash() {
        try {
            return write(MessageDigest.getInstance("SHA-256").digest(used()));
        } catch (GeneralSecurityException problem) {
            throw new IllegalStateException(problem);
        }
    }

    int same() {
        return Arrays.equals(used(), written) ? 1 : 0;
    }

    int about(int what) {
        switch (what) {
            case 0:
                return tape.length;
            case 1:
                return written.length;
            case 2:
                return type;
            case 3:
                return key.length;
            case 4:
                int odd = 0;
                for (byte one : key) {
                    odd += Integer.bitCount(one & 255) % 2;
                }
                return odd;
            default:
                return NONE;
        }
    }
}
