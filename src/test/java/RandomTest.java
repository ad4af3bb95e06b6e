import java.util.Random;

/** Random programs and calls, by fixed seeds: no call ever throws, and each answers what the model answers. */
public final class RandomTest {
    private static final Check CHECK = new Check();
    private static final int[] FUNCTIONS = {0, 2, 3, 4, 6, 7, 8, 9, 12, 13, 16, 17, 18, 19, 24, 25, 26, 27,
        32, 33, 34, 35, 36, 37, 38, 39, 42, 43};
    private static final int[] OPS = {1, 2, 3, 4, 5, 6, 7, 8, 9, 10, 11, 12, 13, 14, 15,
        32, 33, 35, 36, 37, 40, 41, 43};
    private static final int[] EDGES = {0, 1, 2, 3, 4, 31, 32, 255, 256, 0x7FFF, 0x8000, 0xFFFF, -1, -2, -0x8000,
        Integer.MIN_VALUE, Integer.MIN_VALUE + 1, Integer.MAX_VALUE, Integer.MAX_VALUE - 1,
        Guest.TEXT, Guest.TEXT - 4, Guest.TEXT + 252, Guest.TEXT + 256,
        Guest.DATA, Guest.DATA - 1, Guest.DATA - 4, Guest.DATA + 252, Guest.DATA + 255, Guest.DATA + 256};
    // What the document promises of one object ends there.
    private static final int MOST_CALLS = 512;

    private final String name;
    private final Random random;
    private final GuestRunner x = new GuestRunner();
    private final Model model = new Model();
    private int calls;

    private RandomTest(String name, int seed) {
        this.name = name + " " + seed;
        this.random = new Random(seed);
    }

    public static void main(String[] args) {
        for (int seed = 0; seed < 3000; seed++) {
            run(new RandomTest("program", seed), true);
            run(new RandomTest("calls", seed), false);
        }
        CHECK.end();
    }

    private static void run(RandomTest test, boolean isProgram) {
        try {
            if (isProgram) {
                test.program();
                test.lookAtAll();
            } else {
                test.anyCalls();
            }
        } catch (RuntimeException e) {
            CHECK.isTrue(test.name + " threw " + e, false);
        }
    }

    private void due(String call, int got, int want) {
        calls++;
        CHECK.due(name + ", call " + calls + ": " + call, got, want);
    }

    private void word(int v) {
        due("word", x.word(v), model.word(v));
    }

    private void data(int k, int v) {
        due("data", x.data(k, v), model.data(k, v));
    }

    private void give(int k, int v) {
        due("give", x.give(k, v), model.give(k, v));
    }

    private int runFor(int fuel) {
        int want = model.run(fuel);
        due("run", x.run(fuel), want);
        return want;
    }

    private int words() {
        int words = 1 + random.nextInt(64);
        for (int k = 0; k < words; k++) {
            word(anyWord(words));
        }
        return words;
    }

    private void program() {
        int words = words();
        for (int k = 0; k < 10; k++) {
            int b = random.nextInt(256);
            int at = random.nextInt(256);
            due("input", x.input(b), model.input(b));
            data(at, b);
        }
        due("begin", x.begin(), model.begin());
        for (int k = 1; k < 8; k++) {
            give(k, random.nextInt(4));
        }
        for (int k = 8; k < 16; k++) {
            give(k, Guest.DATA + 4 * random.nextInt(64));
        }
        for (int k = 16; k < 24; k++) {
            give(k, Guest.address(random.nextInt(words)));
        }
        for (int k = 24; k < 34; k++) {
            give(k, anyValue());
        }
        for (int k = 0; k < 40; k++) {
            if (runFor(1 + random.nextInt(20)) != 0) {
                break;
            }
            due("PC", x.register(34), model.register(34));
        }
    }

    private void lookAtAll() {
        for (int k = 0; k <= 35; k++) {
            due("register " + k, x.register(k), model.register(k));
        }
        due("code", x.code(), model.code());
        for (int k = 0; k < 256 && calls < MOST_CALLS; k++) {
            due("byteOf " + k, x.byteOf(k), model.byteOf(k));
        }
        for (int k = 0; k < 256 && calls < MOST_CALLS; k++) {
            due("output " + k, x.output(k), model.output(k));
        }
    }

    private int anyWord(int words) {
        int s = random.nextInt(32);
        int t = random.nextInt(32);
        if (random.nextInt(50) == 0) {
            return random.nextInt();
        }
        if (random.nextInt(2) == 0) {
            int f = FUNCTIONS[random.nextInt(FUNCTIONS.length)];
            return Guest.function(f, f == 8 || f == 9 ? 16 + s % 8 : s, t, random.nextInt(8), random.nextInt(32));
        }
        int op = OPS[random.nextInt(OPS.length)];
        if (op == 2 || op == 3) {
            return Guest.jump(op, random.nextInt(words));
        }
        if (op < 8) {
            return Guest.immediate(op, s, op == 1 ? t % 2 + t / 16 * 16 : t, random.nextInt(12) - 6);
        }
        if (op >= 32) {
            return Guest.immediate(op, 8 + s % 8, t % 8, random.nextInt(64) - 32);
        }
        return Guest.immediate(op, s, t % 8, anyValue());
    }

    /** Calls of every kind, with arguments at and beside every edge, in any order. */
    private void anyCalls() {
        words();
        while (calls < MOST_CALLS) {
            int a = anyArgument();
            int b = random.nextInt(4) == 0 ? anyArgument() : anyValue();
            switch (random.nextInt(16)) {
                case 0 -> word(anyWord(32));
                case 1 -> due("set", x.set(a, b), model.set(a, b));
                case 2 -> due("input", x.input(a), model.input(a));
                case 3 -> data(a, anyArgument());
                case 4 -> due("begin", x.begin(), model.begin());
                case 5 -> runFor(a);
                case 6 -> runFor(1 + random.nextInt(9));
                case 7 -> due("register", x.register(a), model.register(a));
                case 8 -> give(random.nextInt(36) - 1, b);
                case 9 -> give(a, b);
                case 10 -> due("byteOf", x.byteOf(a), model.byteOf(a));
                case 11 -> due("output", x.output(a), model.output(a));
                case 12 -> due("code", x.code(), model.code());
                case 13 -> give(2, 1 + random.nextInt(3));
                case 14 -> give(4, b);
                default -> lookAtRegister();
            }
        }
    }

    private void lookAtRegister() {
        int k = random.nextInt(36);
        due("register " + k, x.register(k), model.register(k));
    }

    private int anyArgument() {
        return random.nextInt(4) == 0 ? anyValue() : random.nextInt(300) - 10;
    }

    private int anyValue() {
        return random.nextInt(3) == 0 ? random.nextInt() : EDGES[random.nextInt(EDGES.length)];
    }
}
