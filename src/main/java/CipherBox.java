import java.util.Arrays;

/**
 * A box of published ciphers: triple DES, AES, padding, three codes over bytes, derived keys and SHA-256.
 * Every row is made with the object, so that no later call makes anything.
 */
public final class CipherBox {
    public static final int NONE = -1;

    private static final int TAPE_MOST = 400;
    private static final int FEED_BYTES = 20;
    // SHA-256 pads a full tape to seven blocks of 64: no other call lays out more.
    private static final int WORK_MOST = 448;
    private static final int KEY_MOST = 32;
    private static final int BEGIN_BYTES = 16;
    private static final int TYPE_DES3 = 0;
    private static final int TYPE_AES = 1;
    private static final int DERIVED_MOST = 64;
    private static final int CONTEXT_MOST = 100;
    private static final int LABEL_ZEROS = 11;

    private final Row tape = new Row(TAPE_MOST);
    private final Row written = new Row(TAPE_MOST);
    private final Row work = new Row(WORK_MOST);
    private final Row keyBytes = new Row(KEY_MOST);
    private final Row start = new Row(BEGIN_BYTES);
    private final Des3 des3 = new Des3();
    private final Aes aes = new Aes();
    private final Cmac cmac = new Cmac();
    private final Sha256 sha = new Sha256();
    private int keyType = NONE;

    public CipherBox() {
        start.addZeros(BEGIN_BYTES);
    }

    public int feed(int a, int b, int c, int d, int e) {
        if (tape.room() < FEED_BYTES) {
            return NONE;
        }
        tape.addWord(a);
        tape.addWord(b);
        tape.addWord(c);
        tape.addWord(d);
        tape.addWord(e);
        return tape.size();
    }

    public int end(int n) {
        if (n < 0 || n > tape.size()) {
            return NONE;
        }
        tape.cut(n);
        return n;
    }

    public int out(int i) {
        if (i < 0 || i >= written.size()) {
            return NONE;
        }
        return written.at(i);
    }

    public int take() {
        if (tape.room() < written.size()) {
            return NONE;
        }
        tape.addFirst(written, written.size());
        return tape.size();
    }

    public int key(int type) {
        int answer = keepKey(type);
        tape.cut(0);
        return answer;
    }

    public int begin() {
        int answer = keepStart();
        tape.cut(0);
        return answer;
    }

    public int code(boolean chained, boolean back) {
        int answer = writeCoded(chained, back);
        tape.cut(0);
        return answer;
    }

    public int pad(int block) {
        int answer = writePadded(block);
        tape.cut(0);
        return answer;
    }

    public int unpad() {
        int answer = writeUnpadded();
        tape.cut(0);
        return answer;
    }

    public int mac(int kind) {
        int answer = NONE;
        if (keyType == TYPE_DES3 && (kind == 0 || kind == 1)) {
            answer = writeDesMac(kind == 1);
        } else if (keyType == TYPE_AES && kind == 2) {
            answer = writeCmac();
        }
        tape.cut(0);
        return answer;
    }

    public int derive(int c, int n) {
        int answer = writeDerived(c, n);
        tape.cut(0);
        return answer;
    }

    public int hash() {
        work.become(tape);
        written.cut(0);
        sha.digest(work, written);
        tape.cut(0);
        return written.size();
    }

    public int same() {
        int answer = tape.holdsWhat(written) ? 1 : 0;
        tape.cut(0);
        return answer;
    }

    public int about(int what) {
        switch (what) {
            case 0:
                return tape.size();
            case 1:
                return written.size();
            case 2:
                return keyType;
            case 3:
                return keyBytes.size();
            case 4:
                return keyBytes.countOdd();
            default:
                return NONE;
        }
    }

    private int keepKey(int type) {
        if (!isKeyLength(type, tape.size())) {
            return NONE;
        }
        keyBytes.become(tape);
        keyType = type;
        if (type == TYPE_DES3) {
            des3.schedule(keyBytes);
        } else {
            aes.schedule(keyBytes);
        }
        return 1;
    }

    private static boolean isKeyLength(int type, int length) {
        if (type == TYPE_DES3) {
            return length == 16;
        }
        return type == TYPE_AES && (length == 16 || length == 24 || length == 32);
    }

    private int keepStart() {
        if (tape.size() != BEGIN_BYTES) {
            return NONE;
        }
        start.become(tape);
        return 1;
    }

    private BlockCipher cipherOfKey() {
        if (keyType == TYPE_DES3) {
            return des3;
        }
        return keyType == TYPE_AES ? aes : null;
    }

    private int writeCoded(boolean chained, boolean back) {
        BlockCipher cipher = cipherOfKey();
        if (cipher == null || !cipher.isWhole(tape.size())) {
            return NONE;
        }
        written.cut(0);
        if (!chained) {
            cipher.codeEach(tape, written, back);
        } else if (back) {
            cipher.chainBack(tape, start, written);
        } else {
            cipher.chainThere(tape, start, written);
        }
        return written.size();
    }

    private int writePadded(int block) {
        if (block != 8 && block != 16) {
            return NONE;
        }
        work.become(tape);
        work.addPadding(block);
        if (work.size() > TAPE_MOST) {
            return NONE;
        }
        written.become(work);
        return written.size();
    }

    private int writeUnpadded() {
        int last = tape.lastNotZero();
        if (last < 0 || tape.at(last) != Row.MARK) {
            return NONE;
        }
        written.cut(0);
        written.addFirst(tape, last);
        return written.size();
    }

    private int writeDesMac(boolean retail) {
        work.become(tape);
        work.addPadding(8);
        written.cut(0);
        if (retail) {
            des3.retail(work, start, written);
        } else {
            des3.lastOfChain(work, written);
        }
        return written.size();
    }

    private int writeCmac() {
        written.cut(0);
        cmac.tag(aes, tape, written, Aes.BLOCK);
        return written.size();
    }

    private int writeDerived(int c, int n) {
        if (keyType != TYPE_AES || c < 0 || c > 255) {
            return NONE;
        }
        if (n < 1 || n > DERIVED_MOST || tape.size() > CONTEXT_MOST) {
            return NONE;
        }
        written.cut(0);
        int tags = (n + Aes.BLOCK - 1) / Aes.BLOCK;
        for (int i = 1; i <= tags; i++) {
            layDerivation(c, n, i);
            cmac.tag(aes, work, written, Math.min(Aes.BLOCK, n - written.size()));
        }
        return written.size();
    }

    private void layDerivation(int c, int n, int i) {
        int bits = 8 * n;
        work.cut(0);
        work.addZeros(LABEL_ZEROS);
        work.add(c);
        work.add(0);
        work.add(bits >>> 8);
        work.add(bits);
        work.add(i);
        work.addFirst(tape, tape.size());
    }

    private static int turnRight(int word, int by) {
        return (word >>> by) | (word << -by);
    }

    /** Bytes in a row of a fixed length: a place outside reads as 0, and a byte without room is dropped. */
    private static final class Row {
        static final int MARK = 128;

        private final int[] bytes;
        private int size;

        Row(int most) {
            bytes = new int[Math.max(most, 0)];
        }

        int size() {
            return size;
        }

        int room() {
            return bytes.length - size;
        }

        int at(int i) {
            return i >= 0 && i < size ? bytes[i] : 0;
        }

        int wordAt(int i) {
            return (at(i) << 24) | (at(i + 1) << 16) | (at(i + 2) << 8) | at(i + 3);
        }

        long longAt(int i) {
            return ((long) wordAt(i) << 32) | (wordAt(i + 4) & 0xffffffffL);
        }

        void add(int value) {
            if (size < bytes.length) {
                bytes[size] = value & 255;
                size++;
            }
        }

        void addWord(int word) {
            add(word >>> 24);
            add(word >>> 16);
            add(word >>> 8);
            add(word);
        }

        void addLong(long value) {
            addWord((int) (value >>> 32));
            addWord((int) value);
        }

        void addZeros(int count) {
            for (int i = 0; i < count; i++) {
                add(0);
            }
        }

        void addFirst(Row other, int count) {
            for (int i = 0; i < count; i++) {
                add(other.at(i));
            }
        }

        /** The block is a power of two, so a mask tells how many zeros are missing behind the mark. */
        void addPadding(int block) {
            add(MARK);
            addZeros(-size & (block - 1));
        }

        void cut(int n) {
            if (n >= 0 && n < size) {
                size = n;
            }
        }

        void become(Row other) {
            cut(0);
            addFirst(other, other.size());
        }

        boolean holdsWhat(Row other) {
            if (size != other.size()) {
                return false;
            }
            for (int i = 0; i < size; i++) {
                if (at(i) != other.at(i)) {
                    return false;
                }
            }
            return true;
        }

        int lastNotZero() {
            for (int i = size - 1; i >= 0; i--) {
                if (at(i) != 0) {
                    return i;
                }
            }
            return NONE;
        }

        int countOdd() {
            int count = 0;
            for (int i = 0; i < size; i++) {
                count += Integer.bitCount(at(i)) & 1;
            }
            return count;
        }
    }

    /** A cipher works on its own block, which the modes of SP 800-38A fill and empty. */
    private abstract static class BlockCipher {
        final int[] block;
        private final int shift;

        /** The length is told as a power of two, so that blocks are counted by shifts, without a divisor. */
        BlockCipher(int shift) {
            this.shift = shift;
            block = new int[1 << (shift & 7)];
        }

        abstract void codeThere();

        abstract void codeBack();

        boolean isWhole(int length) {
            return length > 0 && (length & (block.length - 1)) == 0;
        }

        int blocksIn(Row row) {
            return row.size() >> shift;
        }

        void zero() {
            Arrays.fill(block, 0);
        }

        void load(Row from, int at) {
            for (int i = 0; i < block.length; i++) {
                block[i] = from.at(at + i);
            }
        }

        void mix(Row from, int at) {
            for (int i = 0; i < block.length; i++) {
                block[i] ^= from.at(at + i);
            }
        }

        void storeFirst(Row to, int count) {
            for (int i = 0; i < count && i < block.length; i++) {
                to.add(block[i]);
            }
        }

        void codeEach(Row from, Row to, boolean back) {
            int blocks = blocksIn(from);
            for (int i = 0; i < blocks; i++) {
                load(from, i << shift);
                if (back) {
                    codeBack();
                } else {
                    codeThere();
                }
                storeFirst(to, block.length);
            }
        }

        void chainThere(Row from, Row start, Row to) {
            int blocks = blocksIn(from);
            load(start, 0);
            for (int i = 0; i < blocks; i++) {
                mix(from, i << shift);
                codeThere();
                storeFirst(to, block.length);
            }
        }

        void chainBack(Row from, Row start, Row to) {
            int blocks = blocksIn(from);
            for (int i = 0; i < blocks; i++) {
                load(from, i << shift);
                codeBack();
                if (i == 0) {
                    mix(start, 0);
                } else {
                    mix(from, (i - 1) << shift);
                }
                storeFirst(to, block.length);
            }
        }

        /** Goes on with the chain from what the block holds, and leaves its last link there. */
        void absorb(Row from, int blocks) {
            for (int i = 0; i < blocks; i++) {
                mix(from, i << shift);
                codeThere();
            }
        }

        void lastOfChain(Row from, Row to) {
            zero();
            absorb(from, blocksIn(from));
            storeFirst(to, block.length);
        }
    }

    /** Triple DES of two keys (FIPS 46-3), and the retail code, which needs the single DES of each. */
    private static final class Des3 extends BlockCipher {
        private final Des first;
        private final Des last;

        Des3() {
            super(3);
            int[] boxes = Des.makeBoxes();
            first = new Des(boxes);
            last = new Des(boxes);
        }

        void schedule(Row key) {
            first.schedule(key.longAt(0));
            last.schedule(key.longAt(8));
        }

        /** The final permutation of one DES undoes the initial one of the next: only the outermost are done. */
        void codeThere() {
            long halves = Des.permute(gathered(), 64, Des.INITIAL);
            halves = first.rounds(halves, false);
            halves = last.rounds(halves, true);
            halves = first.rounds(halves, false);
            spread(Des.permute(halves, 64, Des.FINAL));
        }

        void codeBack() {
            long halves = Des.permute(gathered(), 64, Des.INITIAL);
            halves = first.rounds(halves, true);
            halves = last.rounds(halves, false);
            halves = first.rounds(halves, true);
            spread(Des.permute(halves, 64, Des.FINAL));
        }

        void retail(Row padded, Row start, Row to) {
            int blocks = blocksIn(padded);
            long link = start.longAt(0);
            for (int i = 0; i < blocks; i++) {
                link = first.coded(link ^ padded.longAt(8 * i), false);
            }
            link = last.coded(link, true);
            to.addLong(first.coded(link, false));
        }

        private long gathered() {
            long value = 0;
            for (int one : block) {
                value = (value << 8) | (one & 255);
            }
            return value;
        }

        private void spread(long value) {
            long rest = value;
            for (int i = block.length - 1; i >= 0; i--) {
                block[i] = (int) rest & 255;
                rest >>>= 8;
            }
        }
    }

    /** DES by one key of eight bytes (FIPS 46-3); its tables count bits from 1 at the highest. */
    private static final class Des {
        static final int[] INITIAL = {
            58, 50, 42, 34, 26, 18, 10, 2, 60, 52, 44, 36, 28, 20, 12, 4,
            62, 54, 46, 38, 30, 22, 14, 6, 64, 56, 48, 40, 32, 24, 16, 8,
            57, 49, 41, 33, 25, 17, 9, 1, 59, 51, 43, 35, 27, 19, 11, 3,
            61, 53, 45, 37, 29, 21, 13, 5, 63, 55, 47, 39, 31, 23, 15, 7,
        };
        static final int[] FINAL = {
            40, 8, 48, 16, 56, 24, 64, 32, 39, 7, 47, 15, 55, 23, 63, 31,
            38, 6, 46, 14, 54, 22, 62, 30, 37, 5, 45, 13, 53, 21, 61, 29,
            36, 4, 44, 12, 52, 20, 60, 28, 35, 3, 43, 11, 51, 19, 59, 27,
            34, 2, 42, 10, 50, 18, 58, 26, 33, 1, 41, 9, 49, 17, 57, 25,
        };
        private static final int[] CHOICE_1 = {
            57, 49, 41, 33, 25, 17, 9, 1, 58, 50, 42, 34, 26, 18,
            10, 2, 59, 51, 43, 35, 27, 19, 11, 3, 60, 52, 44, 36,
            63, 55, 47, 39, 31, 23, 15, 7, 62, 54, 46, 38, 30, 22,
            14, 6, 61, 53, 45, 37, 29, 21, 13, 5, 28, 20, 12, 4,
        };
        private static final int[] CHOICE_2 = {
            14, 17, 11, 24, 1, 5, 3, 28, 15, 6, 21, 10,
            23, 19, 12, 4, 26, 8, 16, 7, 27, 20, 13, 2,
            41, 52, 31, 37, 47, 55, 30, 40, 51, 45, 33, 48,
            44, 49, 39, 56, 34, 53, 46, 42, 50, 36, 29, 32,
        };
        private static final int[] LEFT_SHIFTS = {1, 1, 2, 2, 2, 2, 2, 2, 1, 2, 2, 2, 2, 2, 2, 1};
        private static final int[] PERMUTATION = {
            16, 7, 20, 21, 29, 12, 28, 17, 1, 15, 23, 26, 5, 18, 31, 10,
            2, 8, 24, 14, 32, 27, 3, 9, 19, 13, 30, 6, 22, 11, 4, 25,
        };
        private static final int[] SELECTIONS = {
            14, 4, 13, 1, 2, 15, 11, 8, 3, 10, 6, 12, 5, 9, 0, 7,
            0, 15, 7, 4, 14, 2, 13, 1, 10, 6, 12, 11, 9, 5, 3, 8,
            4, 1, 14, 8, 13, 6, 2, 11, 15, 12, 9, 7, 3, 10, 5, 0,
            15, 12, 8, 2, 4, 9, 1, 7, 5, 11, 3, 14, 10, 0, 6, 13,

            15, 1, 8, 14, 6, 11, 3, 4, 9, 7, 2, 13, 12, 0, 5, 10,
            3, 13, 4, 7, 15, 2, 8, 14, 12, 0, 1, 10, 6, 9, 11, 5,
            0, 14, 7, 11, 10, 4, 13, 1, 5, 8, 12, 6, 9, 3, 2, 15,
            13, 8, 10, 1, 3, 15, 4, 2, 11, 6, 7, 12, 0, 5, 14, 9,

            10, 0, 9, 14, 6, 3, 15, 5, 1, 13, 12, 7, 11, 4, 2, 8,
            13, 7, 0, 9, 3, 4, 6, 10, 2, 8, 5, 14, 12, 11, 15, 1,
            13, 6, 4, 9, 8, 15, 3, 0, 11, 1, 2, 12, 5, 10, 14, 7,
            1, 10, 13, 0, 6, 9, 8, 7, 4, 15, 14, 3, 11, 5, 2, 12,

            7, 13, 14, 3, 0, 6, 9, 10, 1, 2, 8, 5, 11, 12, 4, 15,
            13, 8, 11, 5, 6, 15, 0, 3, 4, 7, 2, 12, 1, 10, 14, 9,
            10, 6, 9, 0, 12, 11, 7, 13, 15, 1, 3, 14, 5, 2, 8, 4,
            3, 15, 0, 6, 10, 1, 13, 8, 9, 4, 5, 11, 12, 7, 2, 14,

            2, 12, 4, 1, 7, 10, 11, 6, 8, 5, 3, 15, 13, 0, 14, 9,
            14, 11, 2, 12, 4, 7, 13, 1, 5, 0, 15, 10, 3, 9, 8, 6,
            4, 2, 1, 11, 10, 13, 7, 8, 15, 9, 12, 5, 6, 3, 0, 14,
            11, 8, 12, 7, 1, 14, 2, 13, 6, 15, 0, 9, 10, 4, 5, 3,

            12, 1, 10, 15, 9, 2, 6, 8, 0, 13, 3, 4, 14, 7, 5, 11,
            10, 15, 4, 2, 7, 12, 9, 5, 6, 1, 13, 14, 0, 11, 3, 8,
            9, 14, 15, 5, 2, 8, 12, 3, 7, 0, 4, 10, 1, 13, 11, 6,
            4, 3, 2, 12, 9, 5, 15, 10, 11, 14, 1, 7, 6, 0, 8, 13,

            4, 11, 2, 14, 15, 0, 8, 13, 3, 12, 9, 7, 5, 10, 6, 1,
            13, 0, 11, 7, 4, 9, 1, 10, 14, 3, 5, 12, 2, 15, 8, 6,
            1, 4, 11, 13, 12, 3, 7, 14, 10, 15, 6, 8, 0, 5, 9, 2,
            6, 11, 13, 8, 1, 4, 10, 7, 9, 5, 0, 15, 14, 2, 3, 12,

            13, 2, 8, 4, 6, 15, 11, 1, 10, 9, 3, 14, 5, 0, 12, 7,
            1, 15, 13, 8, 10, 3, 7, 4, 12, 5, 6, 11, 0, 14, 9, 2,
            7, 11, 4, 1, 9, 12, 14, 2, 0, 6, 10, 13, 15, 3, 5, 8,
            2, 1, 14, 7, 4, 10, 8, 13, 15, 12, 9, 0, 3, 5, 6, 11,
        };

        private static final int ROUNDS = 16;
        private static final int BOXES = 8;
        private static final int BOX_LENGTH = 64;
        private static final int HALF_KEY = 0xfffffff;

        private final int[] boxes;
        private final int[] roundKeys = new int[ROUNDS * BOXES];

        Des(int[] boxes) {
            this.boxes = boxes;
        }

        /** Each box's answers with the permutation behind it already done: a round then needs eight looks alone. */
        static int[] makeBoxes() {
            int[] goal = new int[32];
            for (int i = 0; i < 32; i++) {
                goal[(PERMUTATION[i] - 1) & 31] = 31 - i;
            }
            int[] made = new int[BOXES * BOX_LENGTH];
            for (int i = 0; i < made.length; i++) {
                int box = i >> 6;
                int row = ((i >> 4) & 2) | (i & 1);
                int column = (i >> 1) & 15;
                int four = SELECTIONS[box * BOX_LENGTH + row * 16 + column];
                for (int bit = 0; bit < 4; bit++) {
                    made[i] |= ((four >> (3 - bit)) & 1) << goal[box * 4 + bit];
                }
            }
            return made;
        }

        static long permute(long value, int width, int[] places) {
            long made = 0;
            for (int place : places) {
                made = (made << 1) | ((value >>> (width - place)) & 1);
            }
            return made;
        }

        void schedule(long key) {
            long chosen = permute(key, 64, CHOICE_1);
            int upper = (int) (chosen >>> 28) & HALF_KEY;
            int lower = (int) chosen & HALF_KEY;
            for (int round = 0; round < ROUNDS; round++) {
                upper = turnHalf(upper, LEFT_SHIFTS[round]);
                lower = turnHalf(lower, LEFT_SHIFTS[round]);
                long parts = permute(((long) upper << 28) | lower, 56, CHOICE_2);
                for (int box = 0; box < BOXES; box++) {
                    roundKeys[round * BOXES + box] = (int) (parts >>> (42 - 6 * box)) & 63;
                }
            }
        }

        private static int turnHalf(int half, int by) {
            return ((half << by) | (half >>> (28 - by))) & HALF_KEY;
        }

        long coded(long value, boolean back) {
            return permute(rounds(permute(value, 64, INITIAL), back), 64, FINAL);
        }

        long rounds(long halves, boolean back) {
            int left = (int) (halves >>> 32);
            int right = (int) halves;
            for (int i = 0; i < ROUNDS; i++) {
                int next = left ^ scrambled(right, back ? ROUNDS - 1 - i : i);
                left = right;
                right = next;
            }
            return ((long) right << 32) | (left & 0xffffffffL);
        }

        /** Six bits for a box overlap its neighbours' by two: the half, with its end bits once more around it, has all. */
        private int scrambled(int half, int round) {
            long ring = ((long) (half & 1) << 33) | ((half & 0xffffffffL) << 1) | (half >>> 31);
            int made = 0;
            for (int box = 0; box < BOXES; box++) {
                int six = ((int) (ring >>> (28 - 4 * box)) ^ roundKeys[round * BOXES + box]) & 63;
                made |= boxes[box * BOX_LENGTH + six];
            }
            return made;
        }
    }

    /** AES with keys of 16, 24 and 32 bytes (FIPS 197); the block holds the state column by column. */
    private static final class Aes extends BlockCipher {
        static final int BLOCK = 16;

        private static final int[] SUBSTITUTES = {
            0x63, 0x7c, 0x77, 0x7b, 0xf2, 0x6b, 0x6f, 0xc5, 0x30, 0x01, 0x67, 0x2b, 0xfe, 0xd7, 0xab, 0x76,
            0xca, 0x82, 0xc9, 0x7d, 0xfa, 0x59, 0x47, 0xf0, 0xad, 0xd4, 0xa2, 0xaf, 0x9c, 0xa4, 0x72, 0xc0,
            0xb7, 0xfd, 0x93, 0x26, 0x36, 0x3f, 0xf7, 0xcc, 0x34, 0xa5, 0xe5, 0xf1, 0x71, 0xd8, 0x31, 0x15,
            0x04, 0xc7, 0x23, 0xc3, 0x18, 0x96, 0x05, 0x9a, 0x07, 0x12, 0x80, 0xe2, 0xeb, 0x27, 0xb2, 0x75,
            0x09, 0x83, 0x2c, 0x1a, 0x1b, 0x6e, 0x5a, 0xa0, 0x52, 0x3b, 0xd6, 0xb3, 0x29, 0xe3, 0x2f, 0x84,
            0x53, 0xd1, 0x00, 0xed, 0x20, 0xfc, 0xb1, 0x5b, 0x6a, 0xcb, 0xbe, 0x39, 0x4a, 0x4c, 0x58, 0xcf,
            0xd0, 0xef, 0xaa, 0xfb, 0x43, 0x4d, 0x33, 0x85, 0x45, 0xf9, 0x02, 0x7f, 0x50, 0x3c, 0x9f, 0xa8,
            0x51, 0xa3, 0x40, 0x8f, 0x92, 0x9d, 0x38, 0xf5, 0xbc, 0xb6, 0xda, 0x21, 0x10, 0xff, 0xf3, 0xd2,
            0xcd, 0x0c, 0x13, 0xec, 0x5f, 0x97, 0x44, 0x17, 0xc4, 0xa7, 0x7e, 0x3d, 0x64, 0x5d, 0x19, 0x73,
            0x60, 0x81, 0x4f, 0xdc, 0x22, 0x2a, 0x90, 0x88, 0x46, 0xee, 0xb8, 0x14, 0xde, 0x5e, 0x0b, 0xdb,
            0xe0, 0x32, 0x3a, 0x0a, 0x49, 0x06, 0x24, 0x5c, 0xc2, 0xd3, 0xac, 0x62, 0x91, 0x95, 0xe4, 0x79,
            0xe7, 0xc8, 0x37, 0x6d, 0x8d, 0xd5, 0x4e, 0xa9, 0x6c, 0x56, 0xf4, 0xea, 0x65, 0x7a, 0xae, 0x08,
            0xba, 0x78, 0x25, 0x2e, 0x1c, 0xa6, 0xb4, 0xc6, 0xe8, 0xdd, 0x74, 0x1f, 0x4b, 0xbd, 0x8b, 0x8a,
            0x70, 0x3e, 0xb5, 0x66, 0x48, 0x03, 0xf6, 0x0e, 0x61, 0x35, 0x57, 0xb9, 0x86, 0xc1, 0x1d, 0x9e,
            0xe1, 0xf8, 0x98, 0x11, 0x69, 0xd9, 0x8e, 0x94, 0x9b, 0x1e, 0x87, 0xe9, 0xce, 0x55, 0x28, 0xdf,
            0x8c, 0xa1, 0x89, 0x0d, 0xbf, 0xe6, 0x42, 0x68, 0x41, 0x99, 0x2d, 0x0f, 0xb0, 0x54, 0xbb, 0x16,
        };

        private final int[] originals = new int[256];
        private final int[] roundKeys = new int[60];
        private final int[] moved = new int[BLOCK];
        private int rounds;

        Aes() {
            super(4);
            for (int i = 0; i < 256; i++) {
                originals[SUBSTITUTES[i] & 255] = i;
            }
        }

        void schedule(Row key) {
            int words = key.size() >> 2;
            if (words != 4 && words != 6 && words != 8) {
                return;
            }
            rounds = words + 6;
            for (int i = 0; i < words; i++) {
                roundKeys[i] = key.wordAt(4 * i);
            }
            int total = 4 * (rounds + 1);
            int roundConstant = 1;
            int phase = 0;
            for (int i = words; i < total; i++) {
                int word = roundKeys[i - 1];
                if (phase == 0) {
                    word = substituted(turnRight(word, 24)) ^ (roundConstant << 24);
                    roundConstant = doubled(roundConstant);
                } else if (words == 8 && phase == 4) {
                    word = substituted(word);
                }
                roundKeys[i] = roundKeys[i - words] ^ word;
                phase = phase + 1 == words ? 0 : phase + 1;
            }
        }

        private static int substituted(int word) {
            return (SUBSTITUTES[word >>> 24] << 24)
                | (SUBSTITUTES[(word >>> 16) & 255] << 16)
                | (SUBSTITUTES[(word >>> 8) & 255] << 8)
                | SUBSTITUTES[word & 255];
        }

        /** Twice the byte, in the field of FIPS 197. */
        private static int doubled(int one) {
            int twice = one << 1;
            return (twice & 256) == 0 ? twice : twice ^ 0x11b;
        }

        void codeThere() {
            addRoundKey(0);
            for (int round = 1; round < rounds; round++) {
                substituteAndShift();
                mixColumns();
                addRoundKey(round);
            }
            substituteAndShift();
            addRoundKey(rounds);
        }

        void codeBack() {
            addRoundKey(rounds);
            for (int round = rounds - 1; round > 0; round--) {
                shiftAndRestore();
                addRoundKey(round);
                unmixColumns();
            }
            shiftAndRestore();
            addRoundKey(0);
        }

        private void addRoundKey(int round) {
            for (int column = 0; column < 4; column++) {
                int word = roundKeys[4 * round + column];
                int at = 4 * column;
                block[at] ^= word >>> 24;
                block[at + 1] ^= (word >>> 16) & 255;
                block[at + 2] ^= (word >>> 8) & 255;
                block[at + 3] ^= word & 255;
            }
        }

        private void substituteAndShift() {
            for (int i = 0; i < BLOCK; i++) {
                moved[i] = SUBSTITUTES[block[(i + 4 * (i & 3)) & 15] & 255];
            }
            System.arraycopy(moved, 0, block, 0, BLOCK);
        }

        private void shiftAndRestore() {
            for (int i = 0; i < BLOCK; i++) {
                moved[i] = originals[block[(i - 4 * (i & 3)) & 15] & 255];
            }
            System.arraycopy(moved, 0, block, 0, BLOCK);
        }

        private void mixColumns() {
            for (int at = 0; at < BLOCK; at += 4) {
                int first = block[at];
                int all = first ^ block[at + 1] ^ block[at + 2] ^ block[at + 3];
                block[at] ^= all ^ doubled(block[at] ^ block[at + 1]);
                block[at + 1] ^= all ^ doubled(block[at + 1] ^ block[at + 2]);
                block[at + 2] ^= all ^ doubled(block[at + 2] ^ block[at + 3]);
                block[at + 3] ^= all ^ doubled(block[at + 3] ^ first);
            }
        }

        /** The inverse matrix is the forward one times a sparse one, which is done here ahead of it. */
        private void unmixColumns() {
            for (int at = 0; at < BLOCK; at += 4) {
                int even = doubled(doubled(block[at] ^ block[at + 2]));
                int odd = doubled(doubled(block[at + 1] ^ block[at + 3]));
                block[at] ^= even;
                block[at + 1] ^= odd;
                block[at + 2] ^= even;
                block[at + 3] ^= odd;
            }
            mixColumns();
        }
    }

    /** The code of SP 800-38B, by an AES whose key has been scheduled. */
    private static final class Cmac {
        private final int[] subkey = new int[Aes.BLOCK];

        void tag(Aes aes, Row message, Row to, int count) {
            boolean whole = aes.isWhole(message.size());
            makeSubkey(aes, whole);
            int ahead = whole ? aes.blocksIn(message) - 1 : aes.blocksIn(message);
            aes.zero();
            aes.absorb(message, ahead);
            aes.mix(message, ahead * Aes.BLOCK);
            if (!whole) {
                aes.block[message.size() & 15] ^= Row.MARK;
            }
            for (int i = 0; i < Aes.BLOCK; i++) {
                aes.block[i] ^= subkey[i];
            }
            aes.codeThere();
            aes.storeFirst(to, count);
        }

        private void makeSubkey(Aes aes, boolean whole) {
            aes.zero();
            aes.codeThere();
            System.arraycopy(aes.block, 0, subkey, 0, Aes.BLOCK);
            doubleSubkey();
            if (!whole) {
                doubleSubkey();
            }
        }

        private void doubleSubkey() {
            int carry = subkey[0] >> 7;
            for (int i = 0; i < Aes.BLOCK - 1; i++) {
                subkey[i] = ((subkey[i] << 1) | (subkey[i + 1] >> 7)) & 255;
            }
            subkey[Aes.BLOCK - 1] = ((subkey[Aes.BLOCK - 1] << 1) & 255) ^ (carry == 0 ? 0 : 0x87);
        }
    }

    /** SHA-256 (FIPS 180-4). */
    private static final class Sha256 {
        private static final int[] FIRST_STATE = {
            0x6a09e667, 0xbb67ae85, 0x3c6ef372, 0xa54ff53a, 0x510e527f, 0x9b05688c, 0x1f83d9ab, 0x5be0cd19,
        };
        private static final int[] CONSTANTS = {
            0x428a2f98, 0x71374491, 0xb5c0fbcf, 0xe9b5dba5, 0x3956c25b, 0x59f111f1, 0x923f82a4, 0xab1c5ed5,
            0xd807aa98, 0x12835b01, 0x243185be, 0x550c7dc3, 0x72be5d74, 0x80deb1fe, 0x9bdc06a7, 0xc19bf174,
            0xe49b69c1, 0xefbe4786, 0x0fc19dc6, 0x240ca1cc, 0x2de92c6f, 0x4a7484aa, 0x5cb0a9dc, 0x76f988da,
            0x983e5152, 0xa831c66d, 0xb00327c8, 0xbf597fc7, 0xc6e00bf3, 0xd5a79147, 0x06ca6351, 0x14292967,
            0x27b70a85, 0x2e1b2138, 0x4d2c6dfc, 0x53380d13, 0x650a7354, 0x766a0abb, 0x81c2c92e, 0x92722c85,
            0xa2bfe8a1, 0xa81a664b, 0xc24b8b70, 0xc76c51a3, 0xd192e819, 0xd6990624, 0xf40e3585, 0x106aa070,
            0x19a4c116, 0x1e376c08, 0x2748774c, 0x34b0bcb5, 0x391c0cb3, 0x4ed8aa4a, 0x5b9cca4f, 0x682e6ff3,
            0x748f82ee, 0x78a5636f, 0x84c87814, 0x8cc70208, 0x90befffa, 0xa4506ceb, 0xbef9a3f7, 0xc67178f2,
        };

        private final int[] state = new int[8];
        private final int[] words = new int[64];

        /** The message is padded in its own row: the caller hands over one that it needs no more. */
        void digest(Row message, Row to) {
            long bits = 8L * message.size();
            message.add(Row.MARK);
            message.addZeros((56 - message.size()) & 63);
            message.addLong(bits);
            System.arraycopy(FIRST_STATE, 0, state, 0, 8);
            int blocks = message.size() >> 6;
            for (int i = 0; i < blocks; i++) {
                expand(message, i << 6);
                compress();
            }
            for (int i = 0; i < 8; i++) {
                to.addWord(state[i]);
            }
        }

        private void expand(Row message, int at) {
            for (int i = 0; i < 16; i++) {
                words[i] = message.wordAt(at + 4 * i);
            }
            for (int i = 16; i < 64; i++) {
                int early = words[i - 15];
                int late = words[i - 2];
                int earlyMix = turnRight(early, 7) ^ turnRight(early, 18) ^ (early >>> 3);
                int lateMix = turnRight(late, 17) ^ turnRight(late, 19) ^ (late >>> 10);
                words[i] = words[i - 16] + earlyMix + words[i - 7] + lateMix;
            }
        }

        private void compress() {
            int a = state[0];
            int b = state[1];
            int c = state[2];
            int d = state[3];
            int e = state[4];
            int f = state[5];
            int g = state[6];
            int h = state[7];
            for (int i = 0; i < 64; i++) {
                int chosen = (e & f) ^ (~e & g);
                int most = (a & b) ^ (a & c) ^ (b & c);
                int one = h + (turnRight(e, 6) ^ turnRight(e, 11) ^ turnRight(e, 25)) + chosen + CONSTANTS[i] + words[i];
                int two = (turnRight(a, 2) ^ turnRight(a, 13) ^ turnRight(a, 22)) + most;
                h = g;
                g = f;
                f = e;
                e = d + one;
                d = c;
                c = b;
                b = a;
                a = one + two;
            }
            state[0] += a;
            state[1] += b;
            state[2] += c;
            state[3] += d;
            state[4] += e;
            state[5] += f;
            state[6] += g;
            state[7] += h;
        }
    }
}
