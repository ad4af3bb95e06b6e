/** Promise 7: what each instruction that is no BRANCH or JUMP does. */
public final class InstructionTest {
    private static final Check CHECK = new Check();
    private static final int MIN = Integer.MIN_VALUE;
    private static final int MAX = Integer.MAX_VALUE;

    public static void main(String[] args) {
        shifts();
        hiAndLo();
        products();
        quotients();
        sums();
        logic();
        comparisons();
        immediates();
        loads();
        stores();
        everyRegister();
        registerZero();
        unusedParts();
        reserved();
        CHECK.end();
    }

    /** One instruction with S = register 8, T = register 9, D = register 10. */
    private static GuestRunner did(int w, int s, int t) {
        GuestRunner x = Guest.begun(w, Guest.NOP);
        x.give(8, s);
        x.give(9, t);
        CHECK.due("run of " + w, x.run(1), 0);
        CHECK.due("PC behind " + w, x.register(34), 1);
        CHECK.due("fuel of " + w, x.register(35), 1);
        return x;
    }

    private static void function(int f, int s, int t, int want) {
        int got = did(Guest.function(f, 8, 9, 10, 0), s, t).register(10);
        CHECK.due("f " + f + " of " + s + ", " + t, got, want);
    }

    private static void shift(int f, int t, int h, int want) {
        CHECK.due("f " + f + " of " + t + " by " + h, did(Guest.function(f, 0, 9, 10, h), 0, t).register(10), want);
    }

    private static void immediate(int op, int s, int value, int want) {
        int got = did(Guest.immediate(op, 8, 9, value), s, 12345).register(9);
        CHECK.due("OP " + op + " of " + s + ", " + value, got, want);
    }

    private static void halves(int f, int s, int t, int hi, int lo) {
        GuestRunner x = did(Guest.function(f, 8, 9, 10, 0), s, t);
        CHECK.due("f " + f + " of " + s + ", " + t + ": HI", x.register(32), hi);
        CHECK.due("f " + f + " of " + s + ", " + t + ": LO", x.register(33), lo);
        CHECK.due("f " + f + " leaves D", x.register(10), 0);
    }

    private static void traps(int w, int s, int t, int want) {
        GuestRunner x = Guest.begun(w, Guest.NOP);
        x.give(8, s);
        x.give(9, t);
        String before = Guest.state(x);
        CHECK.due("trap of " + w + " with " + s + ", " + t, x.run(1), 10 + want);
        CHECK.isTrue("nothing done by " + w, before.equals(Guest.state(x)));
    }

    private static void shifts() {
        shift(0, 3, 0, 3);
        shift(0, 3, 31, MIN);
        shift(2, -1, 31, 1);
        shift(2, MIN, 4, 0x08000000);
        shift(3, MIN, 31, -1);
        shift(3, -16, 2, -4);
        shift(3, -16, 0, -16);
        function(4, 4, 5, 80);
        function(4, 32, 5, 5);
        function(4, 33, 5, 10);
        function(4, -1, 1, MIN);
        function(6, 28, -1, 15);
        function(6, 64 + 28, -1, 15);
        function(7, 28, MIN, -8);
        function(7, -4, MIN, -8);
    }

    private static void hiAndLo() {
        CHECK.due("HI = S", did(Guest.function(17, 8, 9, 10, 0), 77, 1).register(32), 77);
        CHECK.due("LO = S", did(Guest.function(19, 8, 9, 10, 0), 78, 1).register(33), 78);
        CHECK.due("HI = S leaves LO", did(Guest.function(17, 8, 9, 10, 0), 77, 1).register(33), 0);
        GuestRunner x = Guest.begun(Guest.function(16, 0, 0, 10, 0), Guest.function(18, 0, 0, 11, 0));
        x.give(32, -5);
        x.give(33, -6);
        x.run(2);
        CHECK.due("D = HI", x.register(10), -5);
        CHECK.due("D = LO", x.register(11), -6);
    }

    private static void products() {
        halves(24, 3, 5, 0, 15);
        halves(24, -3, 5, -1, -15);
        halves(24, MIN, MIN, 0x40000000, 0);
        halves(24, MIN, -1, 0, MIN);
        halves(24, -1, -1, 0, 1);
        halves(25, -1, -1, -2, 1);
        halves(25, MIN, 2, 1, 0);
        halves(25, -3, 5, 4, -15);
    }

    private static void quotients() {
        halves(26, 7, 2, 1, 3);
        halves(26, -7, 2, -1, -3);
        halves(26, 7, -2, 1, -3);
        halves(26, -7, -2, -1, 3);
        halves(26, 9, 0, 9, -1);
        halves(26, -9, 0, -9, -1);
        halves(26, MIN, -1, 0, MIN);
        halves(26, MIN, 1, 0, MIN);
        halves(27, 7, 2, 1, 3);
        halves(27, -7, 2, 1, 0x7FFFFFFC);
        halves(27, -1, -2, 1, 1);
        halves(27, MIN, -1, MIN, 0);
        halves(27, -1, 1, 0, -1);
        halves(27, 9, 0, 9, -1);
        halves(27, -9, 0, -9, -1);
    }

    private static void sums() {
        function(32, 2, 3, 5);
        function(32, MAX, MIN, -1);
        function(33, 2, 3, 5);
        function(33, MAX, 1, MIN);
        function(33, MIN, -1, MAX);
        function(34, 2, 3, -1);
        function(34, MIN, MIN, 0);
        function(34, -1, MIN, MAX);
        function(35, MIN, 1, MAX);
        function(35, 0, MIN, MIN);
        traps(Guest.function(32, 8, 9, 10, 0), MAX, 1, 4);
        traps(Guest.function(32, 8, 9, 10, 0), MIN, -1, 4);
        traps(Guest.function(32, 8, 9, 0, 0), MIN, -1, 4);
        traps(Guest.function(34, 8, 9, 10, 0), MIN, 1, 4);
        traps(Guest.function(34, 8, 9, 10, 0), 0, MIN, 4);
        traps(Guest.function(34, 8, 9, 10, 0), MAX, -1, 4);
        traps(Guest.immediate(8, 8, 9, 1), MAX, 0, 4);
        traps(Guest.immediate(8, 8, 9, -1), MIN, 0, 4);
    }

    private static void logic() {
        function(36, 12, 10, 8);
        function(37, 12, 10, 14);
        function(38, 12, 10, 6);
        function(39, 12, 10, -15);
        function(39, 0, 0, -1);
    }

    private static void comparisons() {
        function(42, -1, 0, 1);
        function(42, 0, -1, 0);
        function(42, 5, 5, 0);
        function(42, MIN, MAX, 1);
        function(43, -1, 0, 0);
        function(43, 0, -1, 1);
        function(43, 5, 5, 0);
        function(43, MAX, MIN, 1);
    }

    private static void immediates() {
        immediate(8, 5, -7, -2);
        immediate(8, MAX, -1, MAX - 1);
        immediate(9, MAX, 1, MIN);
        immediate(9, 0, 0x8000, -32768);
        immediate(10, -2, -1, 1);
        immediate(10, -1, -1, 0);
        immediate(10, 0, -1, 0);
        immediate(10, -40000, 0x7FFF, 1);
        immediate(11, 0, -1, 1);
        immediate(11, -1, -1, 0);
        immediate(11, 0xFFFF, 0xFFFF, 1);
        immediate(11, 0xFFFF7FFF, 0x8000, 1);
        immediate(11, -1, 1, 0);
        immediate(12, -1, 0xFFFF, 0xFFFF);
        immediate(12, 0x12345678, 0xFF00, 0x5600);
        immediate(13, 0x10000, 0xFFFF, 0x1FFFF);
        immediate(14, -1, 0xFFFF, 0xFFFF0000);
        immediate(15, 7, 0xFFFF, 0xFFFF0000);
        immediate(15, 7, 1, 65536);
    }

    private static int loaded(int op, int s, int value) {
        GuestRunner x = Guest.begun(Guest.immediate(op, 8, 9, value));
        x.data(4, 0x81);
        x.data(5, 0x92);
        x.data(6, 0x73);
        x.data(7, 0xF4);
        x.data(252, 1);
        x.data(253, 2);
        x.data(254, 3);
        x.data(255, 4);
        x.give(8, s);
        x.run(1);
        return x.register(9);
    }

    private static void loads() {
        int data = Guest.DATA;
        CHECK.due("byte with sign", loaded(32, data, 4), 0x81 - 256);
        CHECK.due("byte with sign, above 0", loaded(32, data, 6), 0x73);
        CHECK.due("byte without sign", loaded(36, data, 7), 0xF4);
        CHECK.due("two with sign", loaded(33, data, 4), 0x8192 - 65536);
        CHECK.due("two with sign, above 0", loaded(33, data, 6), 0x73F4);
        CHECK.due("two without sign", loaded(37, data, 4), 0x8192);
        CHECK.due("four", loaded(35, data, 4), 0x819273F4);
        CHECK.due("four, i below 0", loaded(35, data + 256, -4), 0x01020304);
        CHECK.due("two, the last", loaded(37, data + 256, -2), 0x0304);
        CHECK.due("a byte, the last", loaded(36, data + 256, -1), 4);
        CHECK.due("a byte by the greatest i", loaded(36, data + 7 - 32767, 32767), 0xF4);
        CHECK.due("a byte by the least i", loaded(36, data + 7 + 32768, -32768), 0xF4);
        GuestRunner own = Guest.begun(Guest.immediate(36, 9, 9, 1));
        own.data(1, 66);
        own.give(9, data);
        own.run(1);
        CHECK.due("T = what S points at, of one register", own.register(9), 66);
    }

    private static void stores() {
        stored(40, 10, 0, 0, 0xD4, 0, 0);
        stored(41, 10, 0, 0, 0xC3, 0xD4, 0);
        stored(43, 8, 0xA1, 0xB2, 0xC3, 0xD4, 0);
        GuestRunner x = Guest.begun(Guest.immediate(43, 29, 9, -4));
        x.give(9, -1);
        x.run(1);
        CHECK.due("store below register 29", x.byteOf(255), 255);
        CHECK.due("store below register 29, its first byte", x.byteOf(252), 255);
        CHECK.due("store below register 29, the byte before", x.byteOf(251), 0);
    }

    /** The bytes from 8 on behind a store at byte at. */
    private static void stored(int op, int at, int... want) {
        GuestRunner x = did(Guest.immediate(op, 8, 9, at), Guest.DATA, 0xA1B2C3D4);
        for (int k = 0; k < want.length; k++) {
            CHECK.due("OP " + op + ", byte " + (8 + k), x.byteOf(8 + k), want[k]);
        }
        CHECK.due("OP " + op + " leaves T", x.register(9), 0xA1B2C3D4);
        CHECK.due("OP " + op + ", the byte before", x.byteOf(7), 0);
    }

    private static void everyRegister() {
        for (int k = 1; k < 32; k++) {
            GuestRunner x = Guest.begun(Guest.load(k, 50 + k), Guest.function(33, k, k, k, 0));
            x.run(2);
            for (int other = 1; other < 34; other++) {
                int rest = other == 29 ? 268435712 : 0;
                CHECK.due("register " + other + " by " + k, x.register(other), other == k ? 100 + 2 * k : rest);
            }
        }
    }

    private static void registerZero() {
        CHECK.due("D = 0", did(Guest.function(33, 8, 9, 0, 0), 1, 2).register(0), 0);
        CHECK.due("T = 0", did(Guest.immediate(13, 8, 0, 9), 1, 2).register(0), 0);
        GuestRunner x = Guest.begun(Guest.immediate(36, 8, 0, 0), Guest.function(37, 0, 0, 9, 0));
        x.data(0, 5);
        x.give(8, Guest.DATA);
        x.give(9, 7);
        x.run(2);
        CHECK.due("a byte to register 0", x.register(0), 0);
        CHECK.due("register 0 read", x.register(9), 0);
        traps(Guest.immediate(36, 0, 0, 0), 0, 0, 3);
    }

    private static void unusedParts() {
        CHECK.due("s of a shift by h", did(Guest.function(0, 31, 9, 10, 1), 0, 4).register(10), 8);
        CHECK.due("h of a shift by S", did(Guest.function(4, 8, 9, 10, 31), 1, 4).register(10), 8);
        CHECK.due("h of a sum", did(Guest.function(33, 8, 9, 10, 31), 1, 4).register(10), 5);
        CHECK.due("d and h of a product", did(Guest.function(24, 8, 9, 10, 31), 3, 4).register(33), 12);
        CHECK.due("s, t, h of D = HI", did(Guest.function(16, 8, 9, 10, 31), 3, 4).register(10), 0);
        CHECK.due("s of T = u 65536", did(Guest.immediate(15, 8, 9, 2), 3, 4).register(9), 131072);
        GuestRunner x = Guest.begun(Guest.SYSTEM | 0x03FFFFC0);
        x.give(2, 3);
        CHECK.due("SYSTEM with other bits", x.run(1), 1);
        GuestRunner y = Guest.begun(Guest.BREAK | 0x03FFFFC0);
        CHECK.due("BREAK with other bits", y.run(1), 15);
    }

    private static void reserved() {
        boolean[] functions = new boolean[64];
        for (int f : new int[] {0, 2, 3, 4, 6, 7, 8, 9, 12, 13, 16, 17, 18, 19, 24, 25, 26, 27,
                32, 33, 34, 35, 36, 37, 38, 39, 42, 43}) {
            functions[f] = true;
        }
        boolean[] ops = new boolean[64];
        for (int op : new int[] {0, 1, 2, 3, 4, 5, 6, 7, 8, 9, 10, 11, 12, 13, 14, 15,
                32, 33, 35, 36, 37, 40, 41, 43}) {
            ops[op] = true;
        }
        for (int k = 0; k < 64; k++) {
            reservedOrNot("f " + k, Guest.function(k, 8, 9, 10, 0), functions[k]);
            reservedOrNot("OP " + k, Guest.immediate(k, 8, 0, 0), ops[k]);
        }
        for (int t = 0; t < 32; t++) {
            reservedOrNot("OP 1, t " + t, Guest.immediate(1, 8, t, 0), t == 0 || t == 1 || t == 16 || t == 17);
        }
    }

    private static void reservedOrNot(String what, int w, boolean known) {
        GuestRunner x = Guest.begun(w, Guest.NOP, Guest.NOP);
        x.give(8, Guest.DATA);
        x.give(9, 1);
        CHECK.due(what + " is RESERVED", x.run(2) == 11 ? 1 : 0, known ? 0 : 1);
    }
}
