import java.util.Random;

/** Random programs, by fixed seeds: no call ever throws, and traps and pieces of fuel leave what they must. */
public final class RandomTest {
    private static final Check CHECK = new Check();
    private static final int[] FUNCTIONS = {0, 2, 3, 4, 6, 7, 8, 9, 12, 13, 16, 17, 18, 19, 24, 25, 26, 27,
        32, 33, 34, 35, 36, 37, 38, 39, 42, 43};
    private static final int[] OPS = {1, 2, 3, 4, 5, 6, 7, 8, 9, 10, 11, 12, 13, 14, 15,
        32, 33, 35, 36, 37, 40, 41, 43};

    public static void main(String[] args) {
        for (int seed = 0; seed < 3000; seed++) {
            try {
                twins(seed);
                anyCalls(seed);
            } catch (RuntimeException e) {
                CHECK.isTrue("seed " + seed + " threw " + e, false);
            }
        }
        CHECK.end();
    }

    /** What one run did up to its stop, a twin does step by step; the trap itself leaves no trace. */
    private static void twins(int seed) {
        GuestRunner whole = program(new Random(seed));
        GuestRunner parts = program(new Random(seed));
        int answer = whole.run(300);
        int used = whole.register(35);
        for (int k = 0; k < 300 && parts.register(35) < used; k++) {
            step(parts);
        }
        CHECK.isTrue("seed " + seed + ": twins", Guest.state(whole).equals(Guest.state(parts)));
        CHECK.isTrue("seed " + seed + ": used " + used, used <= 300 && (answer != 0 || used >= 299));
        if (answer != 0) {
            CHECK.due("seed " + seed + ": the twin's stop", parts.run(2), answer);
            CHECK.isTrue("seed " + seed + ": twins stopped", Guest.state(whole).equals(Guest.state(parts)));
        }
    }

    private static void step(GuestRunner x) {
        int before = x.register(35);
        x.run(1);
        if (x.register(35) == before) {
            x.run(2);
        }
    }

    private static GuestRunner program(Random random) {
        GuestRunner x = new GuestRunner();
        int words = 1 + random.nextInt(64);
        for (int k = 0; k < words; k++) {
            x.word(anyWord(random, words));
        }
        for (int k = 0; k < 10; k++) {
            x.input(random.nextInt(256));
            x.data(random.nextInt(256), random.nextInt(256));
        }
        x.begin();
        for (int k = 0; k < 8; k++) {
            x.give(k, random.nextInt(4));
        }
        for (int k = 8; k < 16; k++) {
            x.give(k, Guest.DATA + 4 * random.nextInt(64));
        }
        for (int k = 16; k < 24; k++) {
            x.give(k, Guest.address(random.nextInt(words)));
        }
        for (int k = 24; k < 34; k++) {
            x.give(k, random.nextInt());
        }
        return x;
    }

    private static int anyWord(Random random, int words) {
        int s = random.nextInt(32);
        int t = random.nextInt(32);
        if (random.nextInt(50) == 0) {
            return random.nextInt();
        }
        if (random.nextInt(2) == 0) {
            int f = FUNCTIONS[random.nextInt(FUNCTIONS.length)];
            return Guest.function(f, f == 8 || f == 9 ? 16 + s % 8 : s, t, random.nextInt(8), random.nextInt(32));
        }
        int op = OPS[random.nextInt(OPS.length)];
        if (op == 2 || op == 3) {
            return Guest.jump(op, random.nextInt(words));
        }
        if (op < 8) {
            return Guest.immediate(op, s, op == 1 ? t % 2 + t / 16 * 16 : t, random.nextInt(12) - 6);
        }
        if (op >= 32) {
            return Guest.immediate(op, 8 + s % 8, t % 8, 4 * (random.nextInt(16) - 8));
        }
        return Guest.immediate(op, s, t % 8, random.nextInt());
    }

    private static void anyCalls(int seed) {
        Random random = new Random(seed);
        GuestRunner x = program(random);
        for (int k = 0; k < 300; k++) {
            int a = anyInt(random);
            int b = anyInt(random);
            switch (random.nextInt(11)) {
                case 0 -> x.word(a);
                case 1 -> x.set(a, b);
                case 2 -> x.input(a);
                case 3 -> x.data(a, b);
                case 4 -> x.begin();
                case 5 -> x.run(a);
                case 6 -> x.register(a);
                case 7 -> x.give(a, b);
                case 8 -> x.byteOf(a);
                case 9 -> x.output(a);
                default -> x.code();
            }
            CHECK.due("register 0", x.register(0), 0);
        }
    }

    private static int anyInt(Random random) {
        return random.nextInt(3) == 0 ? random.nextInt() : random.nextInt(300) - 10;
    }
}
