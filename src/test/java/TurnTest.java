/** Promise 7: BRANCH and JUMP, LINK, the SLOT, and FUEL. */
public final class TurnTest {
    private static final Check CHECK = new Check();
    private static final int MIN = Integer.MIN_VALUE;
    private static final int MAX = Integer.MAX_VALUE;

    public static void main(String[] args) {
        branches();
        branchDistances();
        branchLinks();
        jumps();
        jumpTargets();
        noLink();
        linkBeforeSlot();
        conditionBeforeSlot();
        notTaken();
        fuel();
        fuelBeforeTraps();
        pieces();
        CHECK.end();
    }

    /** A branch at word 1 to word 4; its slot grows register 10. */
    private static GuestRunner turned(int w, int s, int t, boolean goes) {
        GuestRunner x = Guest.begun(Guest.NOP, w, Guest.grow(10, 1), Guest.NOP, Guest.NOP);
        x.give(8, s);
        x.give(9, t);
        x.run(1);
        String what = "turn " + w + " with " + s + ", " + t;
        CHECK.due(what, x.run(2), 0);
        CHECK.due(what + ": PC", x.register(34), goes ? 4 : 3);
        CHECK.due(what + ": slot done once", x.register(10), 1);
        CHECK.due(what + ": fuel", x.register(35), 3);
        return x;
    }

    private static void branches() {
        int[] values = {MIN, -1, 0, 1, MAX};
        for (int s : values) {
            turned(Guest.immediate(1, 8, 0, 2), s, 0, s < 0);
            turned(Guest.immediate(1, 8, 1, 2), s, 0, s >= 0);
            turned(Guest.immediate(1, 8, 16, 2), s, 0, s < 0);
            turned(Guest.immediate(1, 8, 17, 2), s, 0, s >= 0);
            turned(Guest.immediate(6, 8, 0, 2), s, 0, s <= 0);
            turned(Guest.immediate(7, 8, 0, 2), s, 0, s > 0);
            turned(Guest.immediate(6, 8, 9, 2), s, 77, s <= 0);
            turned(Guest.immediate(7, 8, 9, 2), s, -77, s > 0);
            for (int t : values) {
                turned(Guest.immediate(4, 8, 9, 2), s, t, s == t);
                turned(Guest.immediate(5, 8, 9, 2), s, t, s != t);
            }
        }
    }

    private static void branchDistances() {
        GuestRunner back = Guest.begun(Guest.NOP, Guest.immediate(4, 0, 0, -2), Guest.NOP);
        back.run(3);
        CHECK.due("branch back to word 0", back.register(34), 0);
        GuestRunner self = Guest.begun(Guest.immediate(4, 0, 0, -1), Guest.grow(8, 1));
        CHECK.due("branch to itself", self.run(2000), 0);
        CHECK.due("branch to itself: slots", self.register(8), 1000);
        GuestRunner slot = Guest.begun(Guest.immediate(4, 0, 0, 0), Guest.grow(8, 1), Guest.NOP);
        slot.run(3);
        CHECK.due("branch to its slot", slot.register(8), 2);
        CHECK.due("branch to its slot: PC", slot.register(34), 2);
        GuestRunner last = Guest.begun(Guest.immediate(4, 0, 0, 2), Guest.NOP, Guest.NOP, Guest.NOP);
        CHECK.due("branch to the last word", last.run(2), 0);
        CHECK.due("branch to the last word: PC", last.register(34), 3);
    }

    private static void branchLinks() {
        int link = Guest.address(3);
        CHECK.due("no LINK of t 0", turned(Guest.immediate(1, 8, 0, 2), -1, 0, true).register(31), 0);
        CHECK.due("no LINK of t 1", turned(Guest.immediate(1, 8, 1, 2), 1, 0, true).register(31), 0);
        CHECK.due("LINK, it goes", turned(Guest.immediate(1, 8, 16, 2), -1, 0, true).register(31), link);
        CHECK.due("LINK, it does not go", turned(Guest.immediate(1, 8, 16, 2), 1, 0, false).register(31), link);
        CHECK.due("LINK of 17", turned(Guest.immediate(1, 8, 17, 2), 1, 0, true).register(31), link);
        CHECK.due("LINK of 17, not", turned(Guest.immediate(1, 8, 17, 2), -1, 0, false).register(31), link);
        CHECK.due("no LINK of 4", turned(Guest.immediate(4, 8, 9, 2), 1, 1, true).register(31), 0);
        GuestRunner x = Guest.begun(Guest.immediate(1, 31, 16, 2), Guest.NOP, Guest.NOP, Guest.NOP);
        x.give(31, -1);
        x.run(2);
        CHECK.due("S = 31 is looked at before LINK", x.register(34), 3);
        CHECK.due("S = 31: LINK", x.register(31), Guest.address(2));
    }

    private static void jumps() {
        int four = Guest.address(4);
        int link = Guest.address(3);
        CHECK.due("2: no LINK", turned(Guest.jump(2, 4), 0, 0, true).register(31), 0);
        CHECK.due("3: LINK", turned(Guest.jump(3, 4), 0, 0, true).register(31), link);
        GuestRunner plain = turned(Guest.function(8, 8, 9, 11, 3), four, 0, true);
        CHECK.due("f 8: no LINK in D", plain.register(11), 0);
        CHECK.due("f 8: no LINK in 31", plain.register(31), 0);
        CHECK.due("f 9: LINK in D", turned(Guest.function(9, 8, 9, 11, 3), four, 0, true).register(11), link);
        CHECK.due("f 9: D alone", turned(Guest.function(9, 8, 9, 11, 3), four, 0, true).register(31), 0);
        CHECK.due("f 9: D = 0", turned(Guest.function(9, 8, 9, 0, 0), four, 0, true).register(0), 0);
        CHECK.due("f 9: D = S", turned(Guest.function(9, 8, 0, 8, 0), four, 0, true).register(8), link);
    }

    private static void jumpTargets() {
        GuestRunner x = Guest.begun(Guest.jump(2, 63), Guest.NOP);
        CHECK.due("jump behind the words taken", x.run(2), 17);
        GuestRunner far = Guest.begun(2 << 26 | 0x03FFFFFF, Guest.NOP);
        CHECK.due("jump to the highest target", far.run(2), 17);
        GuestRunner low = Guest.begun(2 << 26, Guest.NOP);
        CHECK.due("jump to target 0", low.run(2), 17);
        GuestRunner first = Guest.begun(Guest.jump(2, 0), Guest.grow(8, 1));
        first.run(4);
        CHECK.due("jump to word 0", first.register(8), 2);
        GuestRunner slot = Guest.begun(Guest.jump(2, 1), Guest.grow(8, 1));
        CHECK.due("jump to its slot, the last word", slot.run(2), 0);
        CHECK.due("jump to its slot: PC", slot.register(34), 1);
    }

    private static void noLink() {
        int[] turns = {Guest.function(8, 8, 0, 11, 0), Guest.function(9, 8, 0, 0, 0), Guest.jump(2, 4),
            Guest.immediate(1, 8, 0, 2), Guest.immediate(1, 8, 1, 2), Guest.immediate(4, 8, 8, 2),
            Guest.immediate(5, 8, 0, 2), Guest.immediate(6, 8, 0, 2), Guest.immediate(7, 8, 0, 2)};
        for (int w : turns) {
            GuestRunner x = Guest.begun(w, Guest.NOP, Guest.NOP, Guest.NOP, Guest.NOP);
            x.give(8, Guest.address(4));
            CHECK.due("turn " + w, x.run(2), 0);
            for (int k = 0; k < 34; k++) {
                int want = k == 8 ? Guest.address(4) : k == 29 ? 268435712 : 0;
                CHECK.due("turn " + w + " leaves register " + k, x.register(k), want);
            }
        }
    }

    private static void linkBeforeSlot() {
        GuestRunner x = Guest.begun(Guest.jump(3, 2), Guest.function(33, 31, 0, 9, 0), Guest.NOP);
        x.run(2);
        CHECK.due("the slot sees LINK", x.register(9), Guest.address(2));
        GuestRunner y = Guest.begun(Guest.jump(3, 2), Guest.load(31, 5), Guest.NOP);
        y.run(2);
        CHECK.due("the slot is behind LINK", y.register(31), 5);
    }

    private static void conditionBeforeSlot() {
        GuestRunner x = Guest.begun(Guest.immediate(4, 8, 0, 2), Guest.load(8, 1), Guest.NOP, Guest.NOP);
        x.run(2);
        CHECK.due("whether it goes, before the slot", x.register(34), 3);
        GuestRunner y = Guest.begun(Guest.function(8, 8, 0, 0, 0), Guest.load(8, 0), Guest.NOP, Guest.NOP);
        y.give(8, Guest.address(3));
        y.run(2);
        CHECK.due("where it goes, before the slot", y.register(34), 3);
    }

    private static void notTaken() {
        GuestRunner x = Guest.begun(Guest.immediate(5, 0, 0, 1000), Guest.grow(8, 1));
        CHECK.due("not taken: where it goes is not looked at", x.run(3), 17);
        CHECK.due("not taken: the slot is done", x.register(8), 1);
        CHECK.due("not taken: PC behind the slot", x.register(34), 2);
        CHECK.due("not taken: fuel", x.register(35), 2);
    }

    private static void fuel() {
        GuestRunner x = Guest.begun(Guest.jump(2, 0), Guest.grow(8, 1));
        for (int bad : new int[] {0, -1, 2001, MIN, MAX}) {
            CHECK.due("fuel " + bad, x.run(bad), GuestRunner.BAD);
        }
        CHECK.due("1 is too little for two", x.run(1), 0);
        CHECK.due("1 is too little: PC", x.register(34), 0);
        CHECK.due("1 is too little: fuel", x.register(35), 0);
        CHECK.due("what is left is not kept", x.run(1), 0);
        CHECK.due("3 is one step of two", x.run(3), 0);
        CHECK.due("3: fuel", x.register(35), 2);
        CHECK.due("2000", x.run(2000), 0);
        CHECK.due("2000: fuel", x.register(35), 2002);
        CHECK.due("2000: slots", x.register(8), 1001);
        GuestRunner ended = Guest.begun(Guest.SYSTEM);
        ended.give(2, 3);
        ended.run(1);
        CHECK.due("BAD when it had ended", ended.run(0), GuestRunner.BAD);
        GuestRunner trapped = Guest.begun(Guest.BREAK);
        trapped.run(1);
        CHECK.due("BAD when it had trapped", trapped.run(2001), GuestRunner.BAD);
    }

    private static void fuelBeforeTraps() {
        CHECK.due("PC outside, without fuel", Guest.begun(Guest.NOP).run(1), 17);
        CHECK.due("no slot, fuel 1", Guest.begun(Guest.jump(2, 0)).run(1), 0);
        CHECK.due("no slot, fuel 2", Guest.begun(Guest.jump(2, 0)).run(2), 17);
        CHECK.due("8, fuel 1", Guest.begun(Guest.jump(2, 0), Guest.BREAK).run(1), 0);
        CHECK.due("BREAK behind the fuel", Guest.begun(Guest.NOP, Guest.BREAK).run(1), 0);
        CHECK.due("RESERVED behind the fuel", Guest.begun(Guest.NOP, Guest.RESERVED).run(1), 0);
        CHECK.due("a step of two ends the text", Guest.begun(Guest.immediate(5, 0, 0, 0), Guest.NOP).run(2), 17);
    }

    private static void pieces() {
        GuestRunner whole = counting();
        GuestRunner parts = counting();
        whole.run(100);
        // Fuel 1 does the words alone, fuel 2 the branch behind them.
        parts.run(1);
        for (int k = 0; k < 10; k++) {
            CHECK.due("piece of 1", parts.run(1), 0);
            CHECK.due("piece of 2", parts.run(2), 0);
        }
        CHECK.due("whole: slots", whole.register(9), 30);
        CHECK.due("whole: fuel", whole.register(35), 31);
        CHECK.isTrue("pieces do what the whole does", Guest.state(whole).equals(Guest.state(parts)));
    }

    private static GuestRunner counting() {
        return Guest.begun(Guest.load(8, 10), Guest.grow(8, -1), Guest.immediate(7, 8, 0, -2),
                Guest.grow(9, 3), Guest.BREAK);
    }
}
