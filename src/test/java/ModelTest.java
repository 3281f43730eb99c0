import java.util.Random;

/** Random runs of 512 calls, from fixed seeds, each answered by the box and by the model. */
public final class ModelTest {
    private static final int RUNS = 1500;
    private static final int CALLS = 512;
    private static final int[] LENGTHS = {
        0, 1, 7, 8, 9, 15, 16, 17, 24, 31, 32, 33, 40, 48, 55, 56, 57, 63, 64, 65, 84, 99, 100, 101, 119, 120,
        128, 160, 383, 384, 391, 392, 393, 399, 400, 401,
    };
    private static final int[] ODD_NUMBERS = {-1, -2, Integer.MIN_VALUE, Integer.MAX_VALUE, 256, 3, 5, 1000};

    private final Checks checks;
    private final Random random;
    private final CipherBox box = new CipherBox();
    private final Model model = new Model();
    private final String name;
    private int calls = 0;

    private ModelTest(Checks checks, int seed) {
        this.checks = checks;
        random = new Random(seed);
        name = "run " + seed + ", call ";
    }

    public static void main(String[] args) {
        Checks checks = new Checks("model");
        for (int seed = 0; seed < RUNS; seed++) {
            ModelTest run = new ModelTest(checks, seed);
            while (run.calls < CALLS) {
                run.step();
            }
        }
        checks.close();
    }

    /** Behind the last call the answers are free. */
    private void due(String call, int got, int want) {
        calls++;
        if (calls <= CALLS) {
            checks.due(name + calls + ": " + call, got, want);
        }
    }

    private int some(int... choice) {
        return choice[random.nextInt(choice.length)];
    }

    /** Now and then a number that fits nothing. */
    private int rarely(int usual) {
        return random.nextInt(12) == 0 ? some(ODD_NUMBERS) : usual;
    }

    private int word() {
        return random.nextInt(6) == 0 ? some(0, Integer.MIN_VALUE, 0x80000000, 0x00800000, -1, 128) : random.nextInt();
    }

    private void feed() {
        int a = word();
        int b = word();
        int c = word();
        int d = word();
        int e = word();
        due("feed", box.feed(a, b, c, d, e), model.feed(a, b, c, d, e));
    }

    private void end(int n) {
        due("end(" + n + ")", box.end(n), model.end(n));
    }

    /** Makes the tape as long as a call may like it. */
    private void lay(int length) {
        int limit = 22;
        for (int i = 0; i < limit && model.tape.length < length; i++) {
            feed();
        }
        end(length);
    }

    private void layForKey() {
        lay(rarely(some(16, 16, 24, 32)));
    }

    private void look() {
        int i = random.nextInt(4) == 0 ? some(-1, 0, model.written.length - 1, model.written.length, some(ODD_NUMBERS))
            : random.nextInt(Math.max(1, model.written.length));
        due("out(" + i + ")", box.out(i), model.out(i));
        int what = random.nextInt(7) - 1;
        due("about(" + what + ")", box.about(what), model.about(what));
    }

    private void layAnything() {
        switch (random.nextInt(5)) {
            case 0:
                due("take()", box.take(), model.take());
                break;
            case 1:
                lay(some(LENGTHS));
                break;
            case 2:
                lay(16 * random.nextInt(8));
                break;
            default:
                lay(random.nextInt(90));
                break;
        }
    }

    private void step() {
        look();
        switch (random.nextInt(16)) {
            case 0:
                layForKey();
                int type = rarely(random.nextInt(2));
                due("key(" + type + ")", box.key(type), model.key(type));
                break;
            case 1:
                lay(rarely(16));
                due("begin()", box.begin(), model.begin());
                break;
            case 2:
                end(rarely(random.nextInt(model.tape.length + 2)));
                break;
            case 3:
                feed();
                break;
            case 4:
                due("take()", box.take(), model.take());
                break;
            default:
                layAnything();
                useTape();
                break;
        }
    }

    private void useTape() {
        switch (random.nextInt(8)) {
            case 0:
            case 1:
                boolean chained = random.nextBoolean();
                boolean back = random.nextBoolean();
                due("code(" + chained + ", " + back + ")", box.code(chained, back), model.code(chained, back));
                break;
            case 2:
                int block = rarely(some(8, 16));
                due("pad(" + block + ")", box.pad(block), model.pad(block));
                break;
            case 3:
                due("unpad()", box.unpad(), model.unpad());
                break;
            case 4:
                int kind = rarely(model.type == 1 ? 2 : random.nextInt(3));
                due("mac(" + kind + ")", box.mac(kind), model.mac(kind));
                break;
            case 5:
                int c = rarely(random.nextInt(256));
                int n = rarely(some(0, 65, 1, 64, 16, 32, 33, 1 + random.nextInt(64)));
                due("derive(" + c + ", " + n + ")", box.derive(c, n), model.derive(c, n));
                break;
            case 6:
                due("hash()", box.hash(), model.hash());
                break;
            default:
                due("same()", box.same(), model.same());
                break;
        }
        lookAtAll();
    }

    /** Every tenth time or so the whole of what is written is held against the model's. */
    private void lookAtAll() {
        if (random.nextInt(10) != 0 || calls + model.written.length > CALLS) {
            return;
        }
        for (int i = 0; i < model.written.length; i++) {
            due("out(" + i + ")", box.out(i), model.out(i));
        }
    }
}
