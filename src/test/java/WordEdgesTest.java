/** Terms, from REGISTERS to RESERVED: a test for each sentence that names an edge; the sentence stands above it. */
public final class WordEdgesTest {
    private static final Check CHECK = new Check();
    private static final int BAD = GuestRunner.BAD;
    private static final int MIN = Integer.MIN_VALUE;
    private static final int MAX = Integer.MAX_VALUE;
    private static final int TEXT = Guest.TEXT;
    private static final int DATA = Guest.DATA;
    private static final int[] EDGES = {MIN, MIN + 1, -2, -1, 0, 1, 2, MAX - 1, MAX};

    public static void main(String[] args) {
        zeroIsAlwaysZero();
        registersOf32Bits();
        textOf64Words();
        textIsWhatWasTaken();
        wordsAtAddresses();
        dataOf256Bytes();
        pcIsTheNumberOfAWord();
        partsOfFiveBits();
        immediateWithSign();
        immediateWithoutSign();
        notUsedNotLookedAt();
        shiftsByH();
        shiftsByTheLowestFiveBits();
        hiAndLo();
        productHalves();
        quotientWithSign();
        quotientWithoutSign();
        sumsThatTrap();
        sumsWithoutTraps();
        bits();
        lessWithAndWithoutSign();
        sumsWithImmediate();
        lessThanImmediate();
        lessThanImmediateWithoutSign();
        upperHalf();
        bytesWithAndWithoutSign();
        pairsWithAndWithoutSign();
        fours();
        lowestBytesGoThere();
        allElseIsReserved();
        CHECK.end();
    }

    /** One instruction with S = register 8, T = register 9, D = register 10. */
    private static GuestRunner ready(int w, int s, int t) {
        GuestRunner x = Guest.begun(w, Guest.NOP);
        x.give(8, s);
        x.give(9, t);
        x.give(10, 0x5A5A5A5A);
        return x;
    }

    private static GuestRunner did(String what, int w, int s, int t) {
        GuestRunner x = ready(w, s, t);
        CHECK.due(what + " of " + s + ", " + t, x.run(1), 0);
        return x;
    }

    private static void gives(int f, int s, int t, int want) {
        int got = did("f " + f, Guest.function(f, 8, 9, 10, 0), s, t).register(10);
        CHECK.due("f " + f + ": D of " + s + ", " + t, got, want);
    }

    private static void givesOrTraps(int f, int s, int t, long exact) {
        if (exact == (int) exact) {
            gives(f, s, t, (int) exact);
            return;
        }
        GuestRunner x = ready(Guest.function(f, 8, 9, 10, 0), s, t);
        CHECK.due("f " + f + " of " + s + ", " + t, x.run(1), 14);
        CHECK.due("f " + f + " of " + s + ", " + t + " leaves D", x.register(10), 0x5A5A5A5A);
    }

    private static void givesByImmediate(int op, int s, int i, int want) {
        int got = did("OP " + op + ", i " + i, Guest.immediate(op, 8, 9, i), s, 0x5A5A).register(9);
        CHECK.due("OP " + op + ": T of " + s + ", " + i, got, want);
    }

    private static void halves(int f, int s, int t, int hi, int lo) {
        GuestRunner x = did("f " + f, Guest.function(f, 8, 9, 10, 0), s, t);
        CHECK.due("f " + f + ": HI of " + s + ", " + t, x.register(32), hi);
        CHECK.due("f " + f + ": LO of " + s + ", " + t, x.register(33), lo);
    }

    // "REGISTERS 0 .. 31 of 32 bits (0 is always 0)"
    private static void zeroIsAlwaysZero() {
        int[] functions = {0, 2, 3, 4, 6, 7, 16, 18, 32, 33, 34, 35, 36, 37, 38, 39, 42, 43};
        for (int f : functions) {
            GuestRunner x = ready(Guest.function(f, 8, 9, 0, 0), 3, 7);
            x.give(32, 11);
            x.give(33, 11);
            CHECK.due("f " + f + ", d 0", x.run(1), 0);
            CHECK.due("f " + f + ", d 0: register 0", x.register(0), 0);
        }
        for (int op : new int[] {8, 9, 10, 11, 12, 13, 14, 15}) {
            CHECK.due("OP " + op + ", t 0", did("OP " + op, Guest.immediate(op, 8, 0, 7), 3, 0).register(0), 0);
        }
        for (int op : new int[] {32, 33, 35, 36, 37}) {
            GuestRunner x = ready(Guest.immediate(op, 8, 0, 0), DATA, 0);
            x.data(0, 1);
            x.data(1, 1);
            CHECK.due("OP " + op + ", t 0", x.run(1), 0);
            CHECK.due("OP " + op + ", t 0: register 0", x.register(0), 0);
        }
        GuestRunner link = ready(Guest.function(9, 8, 0, 0, 0), TEXT, 0);
        CHECK.due("LINK to d 0", link.run(2), 0);
        CHECK.due("LINK to d 0: register 0", link.register(0), 0);
        CHECK.due("give(0)", link.give(0, 1), BAD);
        CHECK.due("give(0): register 0", link.register(0), 0);
        GuestRunner slot = Guest.begun(Guest.jump(2, 0), Guest.load(0, 5));
        CHECK.due("a slot to register 0", slot.run(2), 0);
        CHECK.due("a slot to register 0: register 0", slot.register(0), 0);
        GuestRunner use = Guest.begun(Guest.load(0, 5), Guest.function(33, 0, 0, 10, 0), Guest.branch(0), Guest.NOP);
        use.run(2);
        CHECK.due("register 0 used behind it", use.register(10), 0);
        CHECK.due("a trap is one with d 0, too", ready(Guest.function(32, 8, 9, 0, 0), MAX, 1).run(1), 14);
    }

    // "REGISTERS 0 .. 31 of 32 bits"
    private static void registersOf32Bits() {
        gives(33, MAX, 1, MIN);
        gives(33, -1, 1, 0);
        gives(35, 0, 1, -1);
        gives(37, MIN, MAX, -1);
    }

    // "TEXT is up to 64 words"
    private static void textOf64Words() {
        int[] words = Guest.text(64, Guest.NOP);
        words[0] = Guest.jump(2, 63);
        words[1] = Guest.grow(8, 1);
        words[63] = Guest.grow(8, 10);
        GuestRunner x = Guest.begun(words);
        CHECK.due("to the 64th word", x.run(2), 0);
        CHECK.due("to the 64th word: PC", x.register(34), 63);
        CHECK.due("behind the 64th word", x.run(1), 17);
        CHECK.due("the 64th word done", x.register(8), 11);
        CHECK.due("behind the 64th word: PC", x.register(34), 64);
        words[0] = Guest.jump(2, 64);
        CHECK.due("to a 65th word", Guest.begun(words).run(2), 17);
        words[0] = Guest.branch(62);
        CHECK.due("a branch to the 64th word", Guest.begun(words).run(2), 0);
        words[0] = Guest.branch(63);
        CHECK.due("a branch to a 65th word", Guest.begun(words).run(2), 17);
        words[63] = Guest.branch(-64);
        words[0] = Guest.jump(2, 63);
        GuestRunner y = Guest.begun(words);
        CHECK.due("no slot behind the 64th word", y.run(4), 17);
        CHECK.due("no slot behind the 64th word: PC", y.register(34), 63);
    }

    // "(those that were taken, no more)"
    private static void textIsWhatWasTaken() {
        int[] turns = {Guest.jump(2, 2), Guest.branch(1), Guest.function(8, 8, 0, 0, 0)};
        for (int turn : turns) {
            GuestRunner x = Guest.begun(turn, Guest.NOP);
            x.word(Guest.NOP);
            x.give(8, Guest.address(2));
            CHECK.due("to a word not taken", x.run(2), 17);
            CHECK.due("to a word not taken: PC", x.register(34), 0);
            x.begin();
            x.give(8, Guest.address(2));
            CHECK.due("to a word taken", x.run(2), 0);
            CHECK.due("to a word taken: PC", x.register(34), 2);
        }
        GuestRunner slot = Guest.begun(Guest.jump(2, 0));
        slot.word(Guest.NOP);
        CHECK.due("a slot not taken", slot.run(2), 17);
        slot.begin();
        CHECK.due("a slot taken", slot.run(2), 0);
        GuestRunner store = ready(Guest.immediate(43, 8, 9, 0), Guest.address(2), 0);
        store.word(Guest.NOP);
        CHECK.due("a store to a word not taken", store.run(1), 13);
        store.begin();
        store.give(8, Guest.address(2));
        CHECK.due("a store to a word taken", store.run(1), 16);
    }

    // "word k at the ADDRESS 4194304 + 4 k"
    private static void wordsAtAddresses() {
        for (int k = 0; k < 64; k++) {
            int[] words = Guest.text(64, Guest.NOP);
            words[0] = Guest.function(8, 8, 0, 0, 0);
            GuestRunner x = Guest.begun(words);
            x.give(8, 4194304 + 4 * k);
            CHECK.due("to the address of word " + k, x.run(2), 0);
            CHECK.due("PC by the address of word " + k, x.register(34), k);
        }
    }

    // "DATA is 256 bytes from the address 268435456 on."
    private static void dataOf256Bytes() {
        int[] ops = {32, 36, 40, 33, 37, 41, 35, 43};
        int[] bytes = {1, 1, 1, 2, 2, 2, 4, 4};
        for (int k = 0; k < ops.length; k++) {
            String what = "OP " + ops[k];
            int w = Guest.immediate(ops[k], 8, 9, 0);
            CHECK.due(what + " at the first", ready(w, 268435456, 1).run(1), 0);
            CHECK.due(what + " before the first", ready(w, 268435456 - bytes[k], 1).run(1), 13);
            CHECK.due(what + " at the last", ready(w, 268435712 - bytes[k], 1).run(1), 0);
            CHECK.due(what + " behind the last", ready(w, 268435712, 1).run(1), 13);
        }
        for (int k = 0; k < 256; k++) {
            GuestRunner x = ready(Guest.immediate(40, 8, 9, k), DATA, 0x1AB);
            x.run(1);
            CHECK.due("byte " + k, x.byteOf(k), 0xAB);
            GuestRunner y = ready(Guest.immediate(36, 8, 9, k), DATA, 0);
            y.data(k, 0xCD);
            y.run(1);
            CHECK.due("byte " + k + " read", y.register(9), 0xCD);
        }
    }

    // "PC is the number of a word."
    private static void pcIsTheNumberOfAWord() {
        GuestRunner x = Guest.begun(Guest.text(64, Guest.NOP));
        for (int k = 0; k < 64; k++) {
            CHECK.due("PC " + k, x.register(34), k);
            CHECK.due("a step at " + k, x.run(1), k < 63 ? 0 : 17);
        }
        CHECK.due("PC behind the text", x.register(34), 64);
    }

    // "OP (6 bits), s, t, d, h (5 each), f (6)"
    private static void partsOfFiveBits() {
        GuestRunner x = Guest.begun(Guest.function(33, 31, 30, 29, 0), Guest.function(0, 0, 31, 1, 31),
                Guest.function(38, 1, 31, 31, 31), Guest.NOP);
        x.give(31, 5);
        x.give(30, 6);
        x.run(3);
        CHECK.due("s 31, t 30, d 29", x.register(29), 11);
        CHECK.due("t 31, d 1, h 31", x.register(1), MIN);
        CHECK.due("s 1, t 31, d 31", x.register(31), MIN ^ 5);
        for (int k = 1; k < 32; k++) {
            GuestRunner y = Guest.begun(Guest.function(33, k, 0, 0, 0), Guest.function(33, k, 0, k == 31 ? 1 : 31, 0),
                    Guest.function(33, 0, k, k == 30 ? 2 : 30, 0), Guest.function(33, k == 31 ? 1 : 31, 0, k, 0));
            y.give(k, 100 + k);
            y.run(2);
            CHECK.due("s " + k, y.register(k == 31 ? 1 : 31), 100 + k);
            y.run(1);
            CHECK.due("t " + k, y.register(k == 30 ? 2 : 30), 100 + k);
            y.give(k == 31 ? 1 : 31, -k);
            y.run(1);
            CHECK.due("d " + k, y.register(k), -k);
        }
    }

    // "an IMMEDIATE of 16 bits: i with sign"
    private static void immediateWithSign() {
        int[] values = {-32768, -32767, -1, 0, 1, 32766, 32767};
        for (int i : values) {
            givesByImmediate(9, 0, i, i);
            givesByImmediate(8, 0, i, i);
            GuestRunner x = ready(Guest.immediate(36, 8, 9, i), DATA + 128 - i, 0);
            x.data(128, 99);
            CHECK.due("a load by i " + i, x.run(1), 0);
            CHECK.due("loaded by i " + i, x.register(9), 99);
            GuestRunner y = ready(Guest.immediate(40, 8, 9, i), DATA + 128 - i, 98);
            CHECK.due("a store by i " + i, y.run(1), 0);
            CHECK.due("stored by i " + i, y.byteOf(128), 98);
        }
    }

    // ".. u without"
    private static void immediateWithoutSign() {
        for (int u : new int[] {0, 1, 0x7FFF, 0x8000, 0xFFFF}) {
            givesByImmediate(12, -1, u, u);
            givesByImmediate(12, 0xFFFF0000, u, 0);
            givesByImmediate(13, 0, u, u);
            givesByImmediate(13, 0x12340000, u, 0x12340000 + u);
            givesByImmediate(14, 0, u, u);
            givesByImmediate(14, -1, u, -1 - u);
        }
    }

    // "What an instruction does not use is not looked at."
    private static void notUsedNotLookedAt() {
        int s = 31 << 21;
        int t = 31 << 16;
        int d = 31 << 11;
        int h = 31 << 6;
        alike(new int[] {0, 2, 3}, s);
        alike(new int[] {4, 6, 7}, h);
        alike(new int[] {8}, t | d | h);
        alike(new int[] {9}, t | h);
        alike(new int[] {12, 13}, s | t | d | h);
        alike(new int[] {16, 18}, s | t | h);
        alike(new int[] {17, 19}, t | d | h);
        alike(new int[] {24, 25, 26, 27}, d | h);
        alike(new int[] {32, 33, 34, 35, 36, 37, 38, 39, 42, 43}, h);
        for (int op : new int[] {6, 7}) {
            sameAnswers("OP " + op, Guest.immediate(op, 8, 0, 0), t);
        }
        sameAnswers("OP 15", Guest.immediate(15, 0, 9, 7), s);
        sameAnswers("RESERVED f", 1, s | t | d | h);
        sameAnswers("RESERVED OP", Guest.RESERVED, 0x03FFFFFF);
    }

    private static void alike(int[] functions, int unused) {
        for (int f : functions) {
            int used = Guest.function(f, 8, 9, 10, 3) & ~unused;
            sameAnswers("f " + f, used, unused);
        }
    }

    /** Each bit of the unused parts alone, and all of them. */
    private static void sameAnswers(String what, int w, int unused) {
        String want = stateBehind(w);
        CHECK.isTrue(what + ", unused all set", want.equals(stateBehind(w | unused)));
        for (int bit = 0; bit < 32; bit++) {
            if ((unused >>> bit & 1) != 0) {
                CHECK.isTrue(what + ", unused bit " + bit, want.equals(stateBehind(w | 1 << bit)));
            }
        }
    }

    private static String stateBehind(int w) {
        GuestRunner x = Guest.begun(w, Guest.NOP, Guest.NOP);
        for (int k = 1; k < 34; k++) {
            x.give(k, 1000 * k + 1);
        }
        x.give(2, 3);
        x.give(8, Guest.address(2));
        return x.run(2) + " " + Guest.state(x);
    }

    // "0 D = T << h. 2 D = T >>> h. 3 D = T >> h."
    private static void shiftsByH() {
        for (int t : EDGES) {
            for (int h : new int[] {0, 1, 16, 30, 31}) {
                shifted(0, t, h, t << h);
                shifted(2, t, h, t >>> h);
                shifted(3, t, h, t >> h);
            }
        }
        shifted(0, 3, 31, MIN);
        shifted(2, MIN, 31, 1);
        shifted(3, MIN, 31, -1);
        shifted(2, -1, 0, -1);
    }

    private static void shifted(int f, int t, int h, int want) {
        GuestRunner x = did("f " + f + " by h " + h, Guest.function(f, 8, 9, 10, h), 5, t);
        CHECK.due("f " + f + " of " + t + " by h " + h, x.register(10), want);
    }

    // "4, 6, 7 likewise by the lowest five bits of S."
    private static void shiftsByTheLowestFiveBits() {
        int[] amounts = {0, 1, 31, 32, 33, 63, 64, 255, 256, -1, -31, -32, -33, MIN, MIN + 1, MAX};
        for (int s : amounts) {
            int by = ((s % 32) + 32) % 32;
            for (int t : EDGES) {
                gives(4, s, t, t << by);
                gives(6, s, t, t >>> by);
                gives(7, s, t, t >> by);
            }
        }
        gives(4, 32, 5, 5);
        gives(6, 32, -5, -5);
        gives(7, 33, -5, -3);
        gives(6, -1, MIN, 1);
    }

    // "16 D = HI. 17 HI = S. 18 D = LO. 19 LO = S."
    private static void hiAndLo() {
        for (int v : EDGES) {
            GuestRunner x = Guest.begun(Guest.function(16, 0, 0, 10, 0), Guest.function(18, 0, 0, 11, 0),
                    Guest.function(17, 8, 0, 0, 0), Guest.function(19, 9, 0, 0, 0), Guest.NOP);
            x.give(8, v - 5);
            x.give(9, v - 6);
            x.give(32, v);
            x.give(33, v - 1);
            x.run(2);
            CHECK.due("D = HI", x.register(10), v);
            CHECK.due("D = LO", x.register(11), v - 1);
            x.run(1);
            CHECK.due("HI = S", x.register(32), v - 5);
            CHECK.due("HI = S leaves LO", x.register(33), v - 1);
            x.run(1);
            CHECK.due("LO = S", x.register(33), v - 6);
            CHECK.due("LO = S leaves HI", x.register(32), v - 5);
        }
    }

    // "24 HI, LO = the upper, lower half of S T (with sign). 25 without sign."
    private static void productHalves() {
        halves(24, MIN, MIN, 0x40000000, 0);
        halves(24, MIN, MAX, 0xC0000000, MIN);
        halves(24, MAX, MAX, 0x3FFFFFFF, 1);
        halves(24, MIN, -1, 0, MIN);
        halves(24, MIN, 1, -1, MIN);
        halves(24, -1, 1, -1, -1);
        halves(24, -1, 0, 0, 0);
        halves(24, 0x10000, 0x10000, 1, 0);
        halves(25, MIN, MIN, 0x40000000, 0);
        halves(25, MIN, MAX, 0x3FFFFFFF, MIN);
        halves(25, MAX, MAX, 0x3FFFFFFF, 1);
        halves(25, -1, -1, -2, 1);
        halves(25, MIN, 2, 1, 0);
        halves(25, -1, 1, 0, -1);
        halves(25, 1, -1, 0, -1);
        halves(25, -1, 0, 0, 0);
    }

    // "26 LO = S / T, HI = what is left (with sign, cut to 0; by 0: LO = -1, HI = S; -2^31 by -1: LO = S, HI = 0)"
    private static void quotientWithSign() {
        halves(26, 7, 2, 1, 3);
        halves(26, -7, 2, -1, -3);
        halves(26, 7, -2, 1, -3);
        halves(26, -7, -2, -1, 3);
        halves(26, -1, 2, -1, 0);
        halves(26, 1, -2, 1, 0);
        for (int s : EDGES) {
            halves(26, s, 0, s, -1);
        }
        halves(26, MIN, -1, 0, MIN);
        halves(26, MIN + 1, -1, 0, MAX);
        halves(26, MAX, -1, 0, MIN + 1);
        halves(26, MIN, 1, 0, MIN);
        halves(26, MIN, MIN, 0, 1);
        halves(26, MAX, MIN, MAX, 0);
        halves(26, MIN, MAX, -1, -1);
        halves(26, 0, -1, 0, 0);
    }

    // "27 without sign (by 0 likewise)."
    private static void quotientWithoutSign() {
        for (int s : EDGES) {
            halves(27, s, 0, s, -1);
        }
        halves(27, MIN, -1, MIN, 0);
        halves(27, -1, MIN, MAX, 1);
        halves(27, -1, -1, 0, 1);
        halves(27, -1, 1, 0, -1);
        halves(27, -1, 2, 1, MAX);
        halves(27, 1, -1, 1, 0);
        halves(27, MIN, MIN, 0, 1);
        halves(27, -7, 2, 1, 0x7FFFFFFC);
        halves(27, -2, -1, -2, 0);
    }

    // "32 D = S + T, OVERFLOW traps. .. 34 .. S - T likewise."
    private static void sumsThatTrap() {
        for (int s : EDGES) {
            for (int t : EDGES) {
                givesOrTraps(32, s, t, (long) s + t);
                givesOrTraps(34, s, t, (long) s - t);
            }
        }
        CHECK.due("MAX + 1", ready(Guest.function(32, 8, 9, 10, 0), MAX, 1).run(1), 14);
        CHECK.due("MIN + -1", ready(Guest.function(32, 8, 9, 10, 0), MIN, -1).run(1), 14);
        CHECK.due("MIN - 1", ready(Guest.function(34, 8, 9, 10, 0), MIN, 1).run(1), 14);
        CHECK.due("0 - MIN", ready(Guest.function(34, 8, 9, 10, 0), 0, MIN).run(1), 14);
        gives(34, -1, MIN, MAX);
    }

    // "33 without traps. .. 35 .. likewise."
    private static void sumsWithoutTraps() {
        for (int s : EDGES) {
            for (int t : EDGES) {
                gives(33, s, t, (int) ((long) s + t));
                gives(35, s, t, (int) ((long) s - t));
            }
        }
        gives(33, MAX, 1, MIN);
        gives(33, MIN, MIN, 0);
        gives(35, MIN, 1, MAX);
        gives(35, 0, MIN, MIN);
    }

    // "36 and, 37 or, 38 xor, 39 the opposite of or."
    private static void bits() {
        gives(36, 0x0F0F00FF, 0x33330F0F, 0x0303000F);
        gives(37, 0x0F0F00FF, 0x33330F0F, 0x3F3F0FFF);
        gives(38, 0x0F0F00FF, 0x33330F0F, 0x3C3C0FF0);
        gives(39, 0x0F0F00FF, 0x33330F0F, 0xC0C0F000);
        gives(39, 0, 0, -1);
        gives(39, -1, 0, 0);
        gives(39, MIN, 0, MAX);
    }

    // "42 D = 1 if S < T, else 0; 43 without sign."
    private static void lessWithAndWithoutSign() {
        for (int s : EDGES) {
            for (int t : EDGES) {
                gives(42, s, t, (long) s < (long) t ? 1 : 0);
                gives(43, s, t, (s & 0xFFFFFFFFL) < (t & 0xFFFFFFFFL) ? 1 : 0);
            }
        }
        gives(42, MIN, MAX, 1);
        gives(43, MIN, MAX, 0);
        gives(43, 0, MIN, 1);
        gives(43, -1, 0, 0);
    }

    // "8 T = S + i, OVERFLOW traps; 9 without."
    private static void sumsWithImmediate() {
        givesByImmediate(8, MAX - 32767, 32767, MAX);
        givesByImmediate(8, MIN + 32768, -32768, MIN);
        givesByImmediate(8, MAX, 0, MAX);
        givesByImmediate(8, MAX, -1, MAX - 1);
        givesByImmediate(8, MIN, 1, MIN + 1);
        int[][] over = {{MAX, 1}, {MAX - 32766, 32767}, {MIN, -1}, {MIN + 32767, -32768}, {MIN, -32768}};
        for (int[] pair : over) {
            GuestRunner x = ready(Guest.immediate(8, 8, 9, pair[1]), pair[0], 77);
            CHECK.due("OP 8 of " + pair[0] + ", " + pair[1], x.run(1), 14);
            CHECK.due("OP 8 of " + pair[0] + ", " + pair[1] + " leaves T", x.register(9), 77);
            givesByImmediate(9, pair[0], pair[1], (int) ((long) pair[0] + pair[1]));
        }
        givesByImmediate(9, MAX, 1, MIN);
        givesByImmediate(9, MIN, -1, MAX);
    }

    // "10 T = 1 if S < i, else 0"
    private static void lessThanImmediate() {
        for (int i : new int[] {-32768, -1, 0, 1, 32767}) {
            givesByImmediate(10, i - 1, i, 1);
            givesByImmediate(10, i, i, 0);
            givesByImmediate(10, i + 1, i, 0);
            givesByImmediate(10, MIN, i, 1);
            givesByImmediate(10, MAX, i, 0);
        }
    }

    // "11 without sign (i made 32 bits with its sign before)."
    private static void lessThanImmediateWithoutSign() {
        givesByImmediate(11, 0, 0, 0);
        givesByImmediate(11, -1, 0, 0);
        givesByImmediate(11, 0, 1, 1);
        givesByImmediate(11, 1, 1, 0);
        givesByImmediate(11, MIN, 32767, 0);
        givesByImmediate(11, 32766, 32767, 1);
        givesByImmediate(11, 32767, 32767, 0);
        givesByImmediate(11, 32768, -32768, 1);
        givesByImmediate(11, 65535, -1, 1);
        givesByImmediate(11, MAX, -32768, 1);
        givesByImmediate(11, MIN, -32768, 1);
        givesByImmediate(11, -32769, -32768, 1);
        givesByImmediate(11, -32768, -32768, 0);
        givesByImmediate(11, -2, -1, 1);
        givesByImmediate(11, -1, -1, 0);
    }

    // "15 T = u 65536."
    private static void upperHalf() {
        for (int u : new int[] {0, 1, 0x7FFF, 0x8000, 0xFFFF}) {
            givesByImmediate(15, 0x1234, u, u * 65536);
        }
        givesByImmediate(15, -1, 0x8000, MIN);
        givesByImmediate(15, -1, 0, 0);
    }

    private static int loaded(int op, int... bytes) {
        GuestRunner x = ready(Guest.immediate(op, 8, 9, 0), DATA + 8, 0x5A5A);
        for (int k = 0; k < 12; k++) {
            x.data(4 + k, 0x5A);
        }
        for (int k = 0; k < bytes.length; k++) {
            x.data(8 + k, bytes[k]);
        }
        CHECK.due("OP " + op, x.run(1), 0);
        return x.register(9);
    }

    // "32 T = the byte at S + i, with sign; 36 without."
    private static void bytesWithAndWithoutSign() {
        for (int b = 0; b < 256; b++) {
            CHECK.due("byte " + b + " with sign", loaded(32, b), b < 128 ? b : b - 256);
            CHECK.due("byte " + b + " without", loaded(36, b), b);
        }
    }

    // "33, 37 the two bytes there." (33 with sign, as 32; 37 without, as 36; the highest byte first)
    private static void pairsWithAndWithoutSign() {
        int[] highs = {0, 1, 0x7F, 0x80, 0xFF};
        int[] lows = {0, 0x7F, 0x80, 0xFF};
        for (int high : highs) {
            for (int low : lows) {
                int value = 256 * high + low;
                int signed = value < 32768 ? value : value - 65536;
                CHECK.due("two bytes " + value + " with sign", loaded(33, high, low), signed);
                CHECK.due("two bytes " + value + " without", loaded(37, high, low), value);
            }
        }
    }

    // "35 the four." ("memory with its highest byte first")
    private static void fours() {
        CHECK.due("1 2 3 4", loaded(35, 1, 2, 3, 4), 0x01020304);
        CHECK.due("all set", loaded(35, 255, 255, 255, 255), -1);
        CHECK.due("the greatest", loaded(35, 0x7F, 255, 255, 255), MAX);
        CHECK.due("the least", loaded(35, 0x80, 0, 0, 0), MIN);
        CHECK.due("128", loaded(35, 0, 0, 0, 0x80), 128);
        CHECK.due("32768", loaded(35, 0, 0, 0x80, 0), 32768);
    }

    // "40, 41, 43 the lowest byte, two, four of T go there."
    private static void lowestBytesGoThere() {
        stored(40, 0xD4);
        stored(41, 0xC3, 0xD4);
        stored(43, 0xA1, 0xB2, 0xC3, 0xD4);
    }

    private static void stored(int op, int... want) {
        for (int at : new int[] {0, 4, 248, 252}) {
            GuestRunner x = ready(Guest.immediate(op, 8, 9, at), DATA, 0xA1B2C3D4);
            for (int k = 0; k < 256; k++) {
                x.data(k, 0x77);
            }
            CHECK.due("OP " + op + " at " + at, x.run(1), 0);
            for (int k = 0; k < 8; k++) {
                int near = (at & ~7) + k;
                int due = near >= at && near < at + want.length ? want[near - at] : 0x77;
                CHECK.due("OP " + op + " at " + at + ": byte " + near, x.byteOf(near), due);
            }
            CHECK.due("OP " + op + " leaves T", x.register(9), 0xA1B2C3D4);
            CHECK.due("OP " + op + " leaves S", x.register(8), DATA);
        }
    }

    // "All else is RESERVED."
    private static void allElseIsReserved() {
        String functions = " 0 2 3 4 6 7 8 9 12 13 16 17 18 19 24 25 26 27 32 33 34 35 36 37 38 39 42 43 ";
        String ops = " 0 1 2 3 4 5 6 7 8 9 10 11 12 13 14 15 32 33 35 36 37 40 41 43 ";
        String turns = " 0 1 16 17 ";
        for (int k = 0; k < 64; k++) {
            String number = " " + k + " ";
            if (!functions.contains(number)) {
                reserved("f " + k, Guest.function(k, 8, 9, 10, 0));
                reserved("f " + k + ", all else set", Guest.function(k, 31, 31, 31, 31));
            }
            if (!ops.contains(number)) {
                reserved("OP " + k, Guest.immediate(k, 8, 9, 0));
                reserved("OP " + k + ", all else set", Guest.immediate(k, 31, 31, -1));
            }
            if (k < 32 && !turns.contains(number)) {
                reserved("OP 1, t " + k, Guest.immediate(1, 8, k, 0));
                reserved("OP 1, t " + k + ", all else set", Guest.immediate(1, 31, k, -1));
            }
        }
    }

    /** By itself with 1 of fuel, and in a slot. */
    private static void reserved(String what, int w) {
        CHECK.due(what, ready(w, DATA, 1).run(1), 11);
        CHECK.due(what + " in a slot", Guest.begun(Guest.jump(3, 0), w).run(2), 11);
    }
}
