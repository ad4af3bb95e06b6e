/** Promise 7: the TRAPS, their order, and that a trapped step has done nothing. */
public final class TrapTest {
    private static final Check CHECK = new Check();
    private static final int DATA = Guest.DATA;
    private static final int[] LOADS = {32, 36, 33, 37, 35};
    private static final int[] STORES = {40, 41, 43};

    public static void main(String[] args) {
        addresses();
        textAddresses();
        jumpsOutside();
        branchesOutside();
        slots();
        orderInTwo();
        slotTrapsUndoLink();
        systemNumbers();
        sameOnceMore();
        CHECK.end();
    }

    private static void traps(String what, GuestRunner x, int want) {
        String before = Guest.state(x);
        CHECK.due(what, x.run(2), 10 + want);
        CHECK.isTrue(what + ": nothing done", before.equals(Guest.state(x)));
        CHECK.due(what + ": once more", x.run(2000), 10 + want);
        CHECK.isTrue(what + ": nothing done once more", before.equals(Guest.state(x)));
    }

    private static GuestRunner with(int s, int... words) {
        GuestRunner x = Guest.begun(words);
        x.give(8, s);
        x.give(9, -1);
        return x;
    }

    private static void access(int op, int address, int want) {
        traps("OP " + op + " at " + address, with(address, Guest.immediate(op, 8, 9, 0), Guest.NOP), want);
        traps("OP " + op + " by i at " + address, with(address + 5, Guest.immediate(op, 8, 9, -5), Guest.NOP), want);
        traps("OP " + op + " in a slot at " + address,
                with(address, Guest.jump(3, 0), Guest.immediate(op, 8, 9, 0)), want);
    }

    private static int bytes(int op) {
        return op == 32 || op == 36 || op == 40 ? 1 : op == 35 || op == 43 ? 4 : 2;
    }

    private static void addresses() {
        for (int[] ops : new int[][] {LOADS, STORES}) {
            for (int op : ops) {
                access(op, DATA - bytes(op), 3);
                access(op, DATA + 256, 3);
                access(op, 0, 3);
                access(op, -bytes(op), 3);
                access(op, Integer.MIN_VALUE, 3);
                access(op, 0x7FFFFFFC, 3);
                for (int k = 1; k < bytes(op); k++) {
                    access(op, DATA + k, 2);
                    access(op, DATA + 256 - k, 2);
                    access(op, DATA + 256 + k, 2);
                    access(op, Guest.TEXT + k, 2);
                    access(op, k, 2);
                }
            }
        }
    }

    private static void textAddresses() {
        // access() makes texts of two words: 8 bytes.
        for (int op : LOADS) {
            access(op, Guest.TEXT, 3);
            access(op, Guest.TEXT + 4, 3);
        }
        for (int op : STORES) {
            access(op, Guest.TEXT, 6);
            access(op, Guest.TEXT + 4, 6);
            access(op, Guest.TEXT + 8 - bytes(op), 6);
            access(op, Guest.TEXT + 8, 3);
            access(op, Guest.TEXT - bytes(op), 3);
        }
        GuestRunner x = with(Guest.TEXT + 4, Guest.immediate(43, 8, 9, 0));
        x.word(0);
        traps("a word not taken is not in TEXT", x, 3);
    }

    private static void jumpsOutside() {
        int[] outside = {Guest.TEXT + 1, Guest.TEXT + 2, Guest.TEXT + 3, Guest.TEXT - 4, Guest.address(2),
                0, -4, DATA, Integer.MIN_VALUE, Integer.MAX_VALUE};
        for (int address : outside) {
            traps("f 8 to " + address, with(address, Guest.function(8, 8, 0, 0, 0), Guest.grow(10, 1)), 7);
            traps("f 9 to " + address, with(address, Guest.function(9, 8, 0, 31, 0), Guest.grow(10, 1)), 7);
        }
        traps("2 behind the text", with(0, Guest.jump(2, 2), Guest.grow(10, 1)), 7);
        traps("3 before the text", with(0, Guest.jump(3, -1), Guest.grow(10, 1)), 7);
    }

    private static void branchesOutside() {
        traps("branch before the text", with(0, Guest.immediate(4, 0, 0, -2), Guest.grow(10, 1)), 7);
        traps("branch behind the text", with(0, Guest.immediate(4, 0, 0, 1), Guest.grow(10, 1)), 7);
        traps("branch far behind", with(0, Guest.immediate(4, 0, 0, 32767), Guest.grow(10, 1)), 7);
        traps("branch far before", with(0, Guest.immediate(4, 0, 0, -32768), Guest.grow(10, 1)), 7);
        traps("branch with LINK", with(-1, Guest.immediate(1, 8, 16, 1), Guest.grow(10, 1)), 7);
    }

    private static void slots() {
        int[] barred = {Guest.SYSTEM, Guest.BREAK, Guest.function(8, 8, 0, 0, 0), Guest.function(9, 8, 0, 31, 0),
            Guest.jump(2, 0), Guest.jump(3, 0), Guest.immediate(1, 8, 0, 0), Guest.immediate(1, 8, 1, 0),
            Guest.immediate(1, 8, 16, 0), Guest.immediate(1, 8, 17, 0), Guest.immediate(4, 8, 0, 0),
            Guest.immediate(5, 8, 0, 0), Guest.immediate(6, 8, 0, 0), Guest.immediate(7, 8, 0, 0)};
        for (int slot : barred) {
            traps("8: " + slot, with(0, Guest.jump(3, 0), slot, Guest.NOP), 8);
            traps("8, not taken: " + slot, with(0, Guest.immediate(5, 0, 0, 0), slot, Guest.NOP), 8);
            traps("8 before 7: " + slot, with(0, Guest.jump(2, 50), slot, Guest.NOP), 8);
        }
        traps("RESERVED in a slot", with(0, Guest.jump(3, 0), Guest.RESERVED), 1);
        traps("RESERVED in a slot, by f", with(0, Guest.jump(3, 0), Guest.function(1, 0, 0, 0, 0)), 1);
        traps("RESERVED in a slot, by t", with(0, Guest.jump(3, 0), Guest.immediate(1, 0, 2, 0)), 1);
        traps("RESERVED", with(0, Guest.RESERVED), 1);
        traps("BREAK", with(0, Guest.BREAK), 5);
    }

    private static void orderInTwo() {
        traps("no slot, it goes", with(0, Guest.jump(3, 0)), 7);
        traps("no slot, it does not go", with(0, Guest.immediate(5, 0, 0, 0)), 7);
        traps("7 by where before RESERVED", with(0, Guest.jump(3, 50), Guest.RESERVED), 7);
        traps("7 by where before an address", with(1, Guest.jump(3, 50), Guest.immediate(35, 8, 9, 0)), 7);
        traps("not taken: what the slot traps", with(0, Guest.immediate(5, 0, 0, 500), Guest.RESERVED), 1);
    }

    private static void slotTrapsUndoLink() {
        int overflow = Guest.immediate(8, 8, 10, 1);
        int max = Integer.MAX_VALUE;
        traps("overflow behind 3", with(max, Guest.jump(3, 0), overflow), 4);
        traps("overflow behind t 16", with(max, Guest.immediate(1, 8, 16, 0), overflow), 4);
        traps("overflow behind t 17", with(max, Guest.immediate(1, 8, 17, 0), overflow), 4);
        GuestRunner x = with(max, Guest.function(9, 11, 0, 11, 0), overflow);
        x.give(11, Guest.TEXT);
        traps("overflow behind f 9, D = S", x, 4);
        traps("a sum with LINK in a slot", with(0, Guest.jump(3, 0), Guest.immediate(35, 31, 9, 0)), 3);
        traps("a store by LINK in a slot", with(0, Guest.jump(3, 0), Guest.immediate(43, 31, 9, -8)), 6);
    }

    private static void systemNumbers() {
        for (int number : new int[] {0, 4, -1, 10, 257, Integer.MIN_VALUE, Integer.MAX_VALUE}) {
            GuestRunner x = with(0, Guest.SYSTEM);
            x.give(2, number);
            traps("SYSTEM " + number, x, 10);
        }
    }

    private static void sameOnceMore() {
        GuestRunner x = with(0, Guest.SYSTEM, Guest.NOP);
        CHECK.due("SYSTEM 0", x.run(1), 20);
        x.give(2, 1);
        CHECK.due("the cause is gone, the trap is not", x.run(1), 20);
        CHECK.due("PC stays", x.register(34), 0);
        x.begin();
        x.give(2, 1);
        CHECK.due("begin ends the trap", x.run(1), 0);
        GuestRunner y = Guest.begun(Guest.NOP);
        CHECK.due("PC outside", y.run(1), 17);
        y.word(Guest.NOP);
        CHECK.due("PC outside, a word more", y.run(1), 17);
        CHECK.due("used stays", y.register(35), 1);
    }
}
