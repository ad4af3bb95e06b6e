/** Terms, from LINK to the fuel: a test for each sentence that names an edge; the sentence stands above it. */
public final class StepEdgesTest {
    private static final Check CHECK = new Check();
    private static final int MIN = Integer.MIN_VALUE;
    private static final int MAX = Integer.MAX_VALUE;
    private static final int TEXT = Guest.TEXT;
    private static final int DATA = Guest.DATA;
    private static final int SLOT = Guest.grow(10, 1);
    private static final int OVERFLOW = Guest.immediate(8, 9, 10, 1);
    private static final int[] EDGES = {MIN, MIN + 1, -1, 0, 1, MAX};

    public static void main(String[] args) {
        branchConditions();
        linkWhetherOrNot();
        linkIsTwoBehind();
        noLinkElse();
        branchDistance();
        jumpTarget();
        sBeforeLink();
        whetherAndWhereBeforeTheSlot();
        linkBeforeTheSlot();
        pcBehindTheSlot();
        fuelOfAStep();
        trappedStepsDoNothing();
        stepsBeforeATrapStay();
        reservedOfASlot();
        noMultipleOfTheBytes();
        outsideOfData();
        goesToText();
        overflow();
        breaks();
        pcOutsideOfText();
        noSlot();
        jumpNoMultipleOfFour();
        jumpNotInText();
        branchNotInText();
        onlyIfItGoes();
        barredSlots();
        otherSystemNumbers();
        twoBeforeThreeAndSix();
        orderInAStepOfTwo();
        fuelBehindPc();
        fuelBeforeAllElse();
        CHECK.end();
    }

    /** Registers: 8 = s, 9 = the greatest value. */
    private static GuestRunner with(int s, int... words) {
        GuestRunner x = Guest.begun(words);
        x.give(8, s);
        x.give(9, MAX);
        return x;
    }

    /** The step traps, has done nothing, and PC is as before it. */
    private static void traps(String what, int want, GuestRunner x) {
        String before = Guest.state(x);
        CHECK.due(what, x.run(2), 10 + want);
        CHECK.isTrue(what + ": nothing done", before.equals(Guest.state(x)));
    }

    /** The step does not trap; PC is there behind it. */
    private static GuestRunner goesTo(String what, int pc, GuestRunner x) {
        CHECK.due(what, x.run(2), 0);
        CHECK.due(what + ": PC", x.register(34), pc);
        CHECK.due(what + ": fuel", x.register(35), 2);
        return x;
    }

    /** A text of 64 words with the turn at a place, begun there. */
    private static GuestRunner at(int place, int turn) {
        int[] words = Guest.text(64, Guest.NOP);
        words[place] = turn;
        GuestRunner x = Guest.begun(words);
        for (int k = 0; k < place; k++) {
            x.run(1);
        }
        CHECK.due("PC at the turn", x.register(34), place);
        return x;
    }

    private static int behindTurn(GuestRunner x) {
        int answer = x.run(2);
        return answer == 0 ? x.register(34) : -answer;
    }

    // "0 BRANCH if S < 0, 1 if S >= 0; 16, 17 likewise .. 4 BRANCH if S = T; 5 if not. 6 if S <= 0; 7 if S > 0."
    private static void branchConditions() {
        for (int s : EDGES) {
            branches(Guest.immediate(1, 8, 0, 2), s, 0, s < 0);
            branches(Guest.immediate(1, 8, 16, 2), s, 0, s < 0);
            branches(Guest.immediate(1, 8, 1, 2), s, 0, s >= 0);
            branches(Guest.immediate(1, 8, 17, 2), s, 0, s >= 0);
            branches(Guest.immediate(6, 8, 0, 2), s, 0, s <= 0);
            branches(Guest.immediate(7, 8, 0, 2), s, 0, s > 0);
            for (int t : EDGES) {
                branches(Guest.immediate(4, 8, 9, 2), s, t, s == t);
                branches(Guest.immediate(5, 8, 9, 2), s, t, s != t);
            }
        }
    }

    private static void branches(int w, int s, int t, boolean goes) {
        GuestRunner x = with(s, w, SLOT, Guest.NOP, Guest.NOP);
        x.give(9, t);
        goesTo("branch " + w + " of " + s + ", " + t, goes ? 3 : 2, x);
        CHECK.due("branch " + w + ": its slot", x.register(10), 1);
    }

    // "16, 17 likewise, and register 31 = LINK (whether or not)."
    private static void linkWhetherOrNot() {
        for (int s : EDGES) {
            for (int t : new int[] {16, 17}) {
                GuestRunner x = with(s, Guest.immediate(1, 8, t, 0), Guest.NOP, Guest.NOP);
                x.run(2);
                CHECK.due("LINK of t " + t + " with " + s, x.register(31), Guest.address(2));
            }
            for (int t : new int[] {0, 1}) {
                GuestRunner x = with(s, Guest.immediate(1, 8, t, 0), Guest.NOP, Guest.NOP);
                x.give(31, 5);
                x.run(2);
                CHECK.due("no LINK of t " + t + " with " + s, x.register(31), 5);
            }
        }
    }

    // "LINK is the address of the word two behind." (It need not be in TEXT.)
    private static void linkIsTwoBehind() {
        for (int place = 0; place <= 62; place++) {
            GuestRunner x = at(place, Guest.jump(3, 0));
            x.run(2);
            CHECK.due("LINK at " + place, x.register(31), 4194304 + 4 * (place + 2));
        }
        GuestRunner y = at(62, Guest.immediate(1, 0, 17, 0));
        y.run(2);
        CHECK.due("LINK of a branch, the last two words", y.register(31), TEXT + 256);
        int[] words = Guest.text(64, Guest.NOP);
        words[62] = Guest.function(9, 8, 0, 20, 0);
        GuestRunner z = Guest.begun(words);
        z.give(8, TEXT);
        z.run(64);
        CHECK.due("LINK of f 9, the last two words", z.register(20), TEXT + 256);
        CHECK.due("f 9, the last two words: PC", z.register(34), 0);
    }

    // "9 JUMP to S, D = LINK .. 16, 17 .. register 31 = LINK .. 3 also 31 = LINK" (and nothing else gives LINK)
    private static void noLinkElse() {
        int[] turns = {Guest.function(8, 8, 9, 11, 0), Guest.function(9, 8, 0, 0, 0), Guest.jump(2, 2),
            Guest.immediate(1, 8, 0, 1), Guest.immediate(1, 8, 1, 1), Guest.immediate(4, 8, 9, 1),
            Guest.immediate(5, 8, 9, 1), Guest.immediate(6, 8, 9, 1), Guest.immediate(7, 8, 9, 1)};
        for (int turn : turns) {
            GuestRunner x = Guest.begun(turn, Guest.NOP, Guest.NOP);
            for (int k = 1; k < 34; k++) {
                x.give(k, k == 8 ? Guest.address(2) : -k);
            }
            goesTo("no LINK of " + turn, 2, x);
            for (int k = 0; k < 34; k++) {
                CHECK.due("no LINK of " + turn + ": register " + k, x.register(k), k == 8 ? Guest.address(2) : -k);
            }
        }
        int[] links = {Guest.jump(3, 2), Guest.immediate(1, 8, 16, 1), Guest.immediate(1, 8, 17, 1),
            Guest.function(9, 8, 9, 31, 0)};
        for (int turn : links) {
            GuestRunner x = with(Guest.address(2), turn, Guest.NOP, Guest.NOP);
            goesTo("LINK of " + turn, 2, x);
            for (int k = 10; k < 34; k++) {
                int want = k == 29 ? Guest.STACK : k == 31 ? Guest.address(2) : 0;
                CHECK.due("LINK of " + turn + ": register " + k, x.register(k), want);
            }
        }
    }

    // "BRANCH: PC of the next word + i."
    private static void branchDistance() {
        int[][] inside = {{0, -1}, {0, 0}, {0, 1}, {0, 62}, {1, -2}, {62, -63}, {62, 0}, {62, -1}, {30, -31}, {30, 32}};
        for (int[] pair : inside) {
            CHECK.due("branch at " + pair[0] + " by " + pair[1], behindTurn(at(pair[0], Guest.branch(pair[1]))),
                    pair[0] + 1 + pair[1]);
        }
        int[][] outside = {{0, -2}, {0, 63}, {62, -64}, {62, 1}, {30, -32}, {30, 33}, {0, 32767}, {62, -32768},
            {0, -32768}, {62, 32767}};
        for (int[] pair : outside) {
            CHECK.due("branch at " + pair[0] + " by " + pair[1], behindTurn(at(pair[0], Guest.branch(pair[1]))), -17);
        }
    }

    // "JUMP to TARGET: the address 4 TARGET with the highest four bits of that of the next word."
    private static void jumpTarget() {
        for (int op : new int[] {2, 3}) {
            for (int place : new int[] {0, 1, 62}) {
                CHECK.due("to word 0", behindTurn(at(place, op << 26 | TEXT / 4)), 0);
                CHECK.due("to word 63", behindTurn(at(place, op << 26 | TEXT / 4 + 63)), 63);
                CHECK.due("to word 64", behindTurn(at(place, op << 26 | TEXT / 4 + 64)), -17);
                CHECK.due("to word -1", behindTurn(at(place, op << 26 | TEXT / 4 - 1)), -17);
                CHECK.due("to target 0", behindTurn(at(place, op << 26)), -17);
                CHECK.due("to the highest target", behindTurn(at(place, op << 26 | 0x03FFFFFF)), -17);
                CHECK.due("to a target by number", behindTurn(at(place, op << 26 | 1)), -17);
            }
            // TEXT is 64 words: a target of another bit from the seventh on is none of them.
            for (int bit = 6; bit < 26; bit++) {
                int turn = op << 26 | TEXT / 4 ^ 1 << bit;
                CHECK.due("to a target with another bit " + bit, behindTurn(at(0, turn)), -17);
            }
        }
    }

    // "(S of a JUMP is taken before LINK is given.)"
    private static void sBeforeLink() {
        GuestRunner x = with(0, Guest.function(9, 31, 0, 31, 0), Guest.NOP, Guest.NOP, Guest.NOP);
        x.give(31, Guest.address(3));
        goesTo("f 9, S = D = 31", 3, x);
        CHECK.due("f 9, S = D = 31: LINK", x.register(31), Guest.address(2));
        GuestRunner bad = with(0, Guest.function(9, 31, 0, 31, 0), Guest.NOP, Guest.NOP);
        bad.give(31, TEXT + 2);
        traps("f 9, S = D = 31, no multiple of 4", 7, bad);
        GuestRunner y = with(0, Guest.immediate(1, 31, 16, 2), Guest.NOP, Guest.NOP, Guest.NOP);
        y.give(31, -1);
        goesTo("t 16, S = 31 below 0", 3, y);
        GuestRunner z = with(0, Guest.immediate(1, 31, 17, 2), Guest.NOP, Guest.NOP, Guest.NOP);
        z.give(31, -1);
        goesTo("t 17, S = 31 below 0", 2, z);
    }

    // "done in this order: whether it goes, and where; .. the slot"
    private static void whetherAndWhereBeforeTheSlot() {
        goesTo("the slot would keep it from going", 3,
                with(0, Guest.immediate(4, 8, 0, 2), Guest.load(8, 1), Guest.NOP, Guest.NOP));
        goesTo("the slot would make it go", 2,
                with(0, Guest.immediate(7, 8, 0, 2), Guest.load(8, 1), Guest.NOP, Guest.NOP));
        goesTo("the slot would change where", 3,
                with(Guest.address(3), Guest.function(8, 8, 0, 0, 0), Guest.load(8, 0), Guest.NOP, Guest.NOP));
        traps("the slot would mend where", 7,
                with(0, Guest.function(8, 8, 0, 0, 0), Guest.immediate(15, 0, 8, 64), Guest.NOP));
    }

    // "done in this order: .. LINK; the slot"
    private static void linkBeforeTheSlot() {
        int[] turns = {Guest.jump(3, 2), Guest.immediate(1, 0, 16, 1), Guest.immediate(1, 0, 17, 1),
            Guest.function(9, 8, 0, 31, 0)};
        for (int turn : turns) {
            GuestRunner x = with(Guest.address(2), turn, Guest.function(33, 31, 31, 10, 0), Guest.NOP);
            goesTo("a slot that reads LINK", 2, x);
            CHECK.due("LINK as the slot read it", x.register(10), 2 * Guest.address(2));
            GuestRunner y = with(Guest.address(2), turn, Guest.load(31, 5), Guest.NOP);
            goesTo("a slot over LINK", 2, y);
            CHECK.due("what the slot gave over LINK", y.register(31), 5);
        }
    }

    // "then PC is where it goes, else the word behind the slot"
    private static void pcBehindTheSlot() {
        goesTo("it goes", 0, with(0, Guest.branch(-1), SLOT));
        goesTo("it goes to its slot", 1, with(0, Guest.branch(0), SLOT));
        goesTo("it goes to the word behind its slot", 2, with(0, Guest.branch(1), SLOT, Guest.NOP));
        goesTo("it does not go", 2, with(0, Guest.stay(-1), SLOT, Guest.NOP));
        GuestRunner x = with(0, Guest.stay(-1), SLOT);
        CHECK.due("it does not go, at the end of the text", x.run(2), 17);
        CHECK.due("its slot is done", x.register(10), 1);
        CHECK.due("PC is behind the text", x.register(34), 2);
    }

    // "It takes 1 of FUEL, or 2."
    private static void fuelOfAStep() {
        GuestRunner one = with(0, SLOT, SLOT);
        CHECK.due("a step of 1", one.run(1), 0);
        CHECK.due("a step of 1: used", one.register(35), 1);
        for (int turn : new int[] {Guest.branch(1), Guest.stay(1), Guest.jump(2, 2), Guest.jump(3, 2),
            Guest.function(8, 8, 0, 0, 0), Guest.function(9, 8, 0, 31, 0), Guest.immediate(1, 0, 16, 1)}) {
            GuestRunner x = with(Guest.address(2), turn, SLOT, SLOT);
            CHECK.due("1 is too little for " + turn, x.run(1), 0);
            CHECK.due("1 is too little for " + turn + ": PC", x.register(34), 0);
            CHECK.due("1 is too little for " + turn + ": its slot", x.register(10), 0);
            CHECK.due("1 is too little for " + turn + ": used", x.register(35), 0);
            goesTo("2 for " + turn, 2, x);
            CHECK.due("2 for " + turn + ": its slot", x.register(10), 1);
        }
        GuestRunner left = with(0, SLOT, Guest.branch(-2), SLOT);
        CHECK.due("1 is left for a step of 2", left.run(2), 0);
        CHECK.due("1 is left for a step of 2: PC", left.register(34), 1);
        CHECK.due("what was left is not kept", left.run(1), 0);
        CHECK.due("what was left is not kept: PC", left.register(34), 1);
    }

    // "TRAPS: the step has done nothing then, PC is as before it" (LINK is not given, then, either)
    private static void trappedStepsDoNothing() {
        int[] traps = {Guest.RESERVED, Guest.immediate(35, 8, 10, 2), Guest.immediate(35, 0, 10, 0), OVERFLOW,
            Guest.immediate(43, 8, 10, 0)};
        int[] numbers = {1, 2, 3, 4, 6};
        int[] links = {Guest.jump(3, 0), Guest.immediate(1, 0, 16, 0), Guest.immediate(1, 0, 17, 0),
            Guest.function(9, 8, 0, 31, 0), Guest.function(9, 8, 0, 8, 0)};
        for (int k = 0; k < traps.length; k++) {
            traps("trap " + numbers[k], numbers[k], with(TEXT, traps[k], Guest.NOP));
            for (int link : links) {
                GuestRunner x = with(TEXT, link, traps[k], Guest.NOP);
                x.give(31, 77);
                x.give(10, 78);
                traps("trap " + numbers[k] + " in the slot of " + link, numbers[k], x);
            }
        }
    }

    // "the step has done nothing then" (the steps before it have)
    private static void stepsBeforeATrapStay() {
        GuestRunner x = with(DATA, Guest.immediate(43, 8, 9, 0), SLOT, Guest.jump(3, 0), OVERFLOW);
        CHECK.due("two steps and a trap", x.run(2000), 14);
        CHECK.due("the first step", x.byteOf(0), 0x7F);
        CHECK.due("the second step", x.register(10), 1);
        CHECK.due("no LINK", x.register(31), 0);
        CHECK.due("PC at the turn, not at its slot", x.register(34), 2);
        CHECK.due("used by two steps", x.register(35), 2);
    }

    // "1 RESERVED (also of a slot)."
    private static void reservedOfASlot() {
        int[] words = {Guest.RESERVED, -1, 1, Guest.immediate(1, 0, 2, 0), Guest.immediate(1, 0, 31, 0),
            Guest.immediate(34, 8, 9, 0), Guest.immediate(42, 8, 9, 0)};
        for (int w : words) {
            traps("RESERVED " + w, 1, with(DATA, w, Guest.NOP));
            traps("RESERVED slot " + w, 1, with(DATA, Guest.branch(-1), w));
            traps("RESERVED slot, it does not go " + w, 1, with(DATA, Guest.stay(-1), w));
            GuestRunner x = with(DATA, w);
            CHECK.due("RESERVED takes 1 of fuel, not 2: " + w, x.run(1), 11);
        }
    }

    private static int bytes(int op) {
        return op == 32 || op == 36 || op == 40 ? 1 : op == 35 || op == 43 ? 4 : 2;
    }

    /** By S alone, by S and i, and in a slot. */
    private static void access(int op, int address, int want) {
        String what = "OP " + op + " at " + address;
        traps(what, want, with(address, Guest.immediate(op, 8, 9, 0), Guest.NOP));
        traps(what + " by i", want, with(address + 32768, Guest.immediate(op, 8, 9, -32768), Guest.NOP));
        traps(what + " in a slot", want, with(address, Guest.jump(3, 0), Guest.immediate(op, 8, 9, 0)));
    }

    // "2 an address that is no multiple of the bytes."
    private static void noMultipleOfTheBytes() {
        for (int op : new int[] {33, 37, 41, 35, 43}) {
            for (int k = 1; k < bytes(op); k++) {
                access(op, DATA + k, 2);
                access(op, DATA + 256 - k, 2);
            }
        }
        GuestRunner pair = with(DATA + 2, Guest.immediate(33, 8, 10, 0), Guest.immediate(41, 8, 9, 252));
        CHECK.due("two bytes at a multiple of 2, not of 4", pair.run(2), 17);
        GuestRunner byteAtOdd = with(DATA + 1, Guest.immediate(32, 8, 10, 0), Guest.immediate(40, 8, 9, 254));
        CHECK.due("a byte anywhere", byteAtOdd.run(2), 17);
        GuestRunner sum = with(DATA + 1, Guest.immediate(35, 8, 10, 3), Guest.immediate(43, 8, 9, 251));
        CHECK.due("S + i is looked at, not S", sum.run(2), 17);
    }

    // "3 one outside of DATA"
    private static void outsideOfData() {
        for (int op : new int[] {32, 36, 40, 33, 37, 41, 35, 43}) {
            int n = bytes(op);
            int[] outside = {DATA - n, DATA + 256, DATA + 256 + n, 0, -n, MIN, MAX - n + 1, DATA + 0x01000000,
                DATA + MIN, TEXT - n, TEXT + 8, TEXT + 256, TEXT + MIN};
            for (int address : outside) {
                access(op, address, 3);
            }
        }
        for (int bit = 8; bit < 32; bit++) {
            access(32, DATA ^ 1 << bit, 3);
            access(40, DATA ^ 1 << bit, 3);
            access(40, TEXT ^ 1 << bit, 3);
        }
        traps("S + i wraps around from below", 3, with(0, Guest.immediate(32, 8, 10, -1)));
        traps("S + i wraps around from above", 3, with(MAX, Guest.immediate(32, 8, 10, 1)));
    }

    // "6 for what goes to TEXT" (what comes from there is outside of DATA: 3)
    private static void goesToText() {
        for (int op : new int[] {40, 41, 43}) {
            access(op, TEXT, 6);
            access(op, TEXT + 8 - bytes(op), 6);
            access(op, TEXT + 8, 3);
            access(op, TEXT - bytes(op), 3);
        }
        for (int op : new int[] {32, 36, 33, 37, 35}) {
            access(op, TEXT, 3);
            access(op, TEXT + 8 - bytes(op), 3);
        }
        int[] words = Guest.text(64, Guest.NOP);
        words[0] = Guest.immediate(40, 8, 9, 0);
        traps("the last byte of the 64th word", 6, with(TEXT + 255, words));
        traps("behind the 64th word", 3, with(TEXT + 256, words));
        GuestRunner x = with(TEXT + 4, Guest.immediate(43, 8, 9, 0), SLOT);
        x.run(1);
        x.begin();
        x.give(8, DATA);
        x.run(2);
        CHECK.due("the text is as it was", x.register(10), 1);
    }

    // "4 OVERFLOW."
    private static void overflow() {
        int[] words = {Guest.function(32, 9, 9, 10, 0), Guest.function(34, 8, 9, 10, 0), Guest.immediate(8, 9, 10, 1)};
        for (int w : words) {
            traps("OVERFLOW " + w, 4, with(-2, w, Guest.NOP));
            traps("OVERFLOW to register 0: " + w, 4, with(-2, w & ~(w >>> 26 == 0 ? 31 << 11 : 31 << 16), Guest.NOP));
            traps("OVERFLOW in a slot: " + w, 4, with(-2, Guest.jump(3, 0), w));
        }
    }

    // "5 BREAK."
    private static void breaks() {
        traps("BREAK", 5, with(0, Guest.BREAK));
        traps("BREAK with all else set", 5, with(0, Guest.BREAK | 0x03FFFFC0));
    }

    // "7 PC outside of TEXT (before a step ..)"
    private static void pcOutsideOfText() {
        GuestRunner x = Guest.begun(Guest.NOP);
        CHECK.due("behind the only word", x.run(2), 17);
        CHECK.due("behind the only word: PC", x.register(34), 1);
        CHECK.due("behind the only word: used", x.register(35), 1);
        GuestRunner none = new GuestRunner();
        traps("no word at all", 7, none);
        GuestRunner full = Guest.begun(Guest.text(64, Guest.NOP));
        CHECK.due("behind the 64th", full.run(65), 17);
        CHECK.due("behind the 64th: used", full.register(35), 64);
    }

    // "(.. a slot, too)"
    private static void noSlot() {
        int[] turns = {Guest.branch(-1), Guest.stay(-1), Guest.jump(2, 0), Guest.jump(3, 0), Guest.branch(9),
            Guest.function(8, 8, 0, 0, 0), Guest.function(9, 8, 0, 31, 0), Guest.immediate(1, 0, 16, 0)};
        for (int turn : turns) {
            traps("no slot of " + turn, 7, with(TEXT, turn));
            GuestRunner x = at(63, turn);
            x.give(8, TEXT);
            traps("no slot behind the 64th word " + turn, 7, x);
        }
    }

    // "a JUMP to an address that is no multiple of 4 .. (before the slot is done ..)"
    private static void jumpNoMultipleOfFour() {
        for (int address : new int[] {TEXT + 1, TEXT + 2, TEXT + 3, TEXT + 5, TEXT + 7, TEXT - 1, TEXT + 9, -1, MAX}) {
            traps("f 8 to " + address, 7, with(address, Guest.function(8, 8, 0, 0, 0), SLOT));
            traps("f 9 to " + address, 7, with(address, Guest.function(9, 8, 0, 31, 0), SLOT));
        }
    }

    // ".. or not in TEXT"
    private static void jumpNotInText() {
        for (int address : new int[] {TEXT - 4, TEXT + 8, TEXT + 256, 0, 4, DATA, MIN, MAX - 3, -4, TEXT + MIN}) {
            traps("f 8 to " + address, 7, with(address, Guest.function(8, 8, 0, 0, 0), SLOT));
            traps("f 9 to " + address, 7, with(address, Guest.function(9, 8, 0, 31, 0), SLOT));
        }
        for (int op : new int[] {2, 3}) {
            traps("OP " + op + " before TEXT", 7, with(0, Guest.jump(op, -1), SLOT));
            traps("OP " + op + " behind TEXT", 7, with(0, Guest.jump(op, 2), SLOT));
        }
        for (int bit = 3; bit < 32; bit++) {
            int address = TEXT ^ 1 << bit;
            traps("f 8 to another bit " + bit, 7, with(address, Guest.function(8, 8, 0, 0, 0), SLOT));
        }
        goesTo("f 8 to the last word", 1, with(TEXT + 4, Guest.function(8, 8, 0, 0, 0), SLOT));
        goesTo("OP 2 to the last word", 1, with(0, Guest.jump(2, 1), SLOT));
    }

    // "(.. a BRANCH likewise)"
    private static void branchNotInText() {
        int[] kinds = {Guest.immediate(1, 8, 0, 0), Guest.immediate(1, 0, 1, 0), Guest.immediate(1, 8, 16, 0),
            Guest.immediate(1, 0, 17, 0), Guest.immediate(4, 0, 0, 0), Guest.immediate(5, 8, 0, 0),
            Guest.immediate(6, 8, 0, 0), Guest.immediate(7, 9, 0, 0)};
        for (int kind : kinds) {
            for (int i : new int[] {-2, 1, -32768, 32767}) {
                traps("branch " + kind + " by " + i, 7, with(-1, kind | i & 0xFFFF, SLOT));
            }
            goesTo("branch " + kind + " to the first word", 0, with(-1, kind | 0xFFFF, SLOT));
            goesTo("branch " + kind + " to the last word", 1, with(-1, kind, SLOT));
        }
    }

    // ".. if it goes"
    private static void onlyIfItGoes() {
        int[] kinds = {Guest.immediate(1, 0, 0, 0), Guest.immediate(1, 8, 1, 0), Guest.immediate(1, 0, 16, 0),
            Guest.immediate(1, 8, 17, 0), Guest.immediate(4, 8, 0, 0), Guest.immediate(5, 0, 0, 0),
            Guest.immediate(6, 9, 0, 0), Guest.immediate(7, 8, 0, 0)};
        for (int kind : kinds) {
            for (int i : new int[] {-2, 2, -32768, 32767}) {
                GuestRunner x = with(-1, kind | i & 0xFFFF, SLOT, Guest.NOP);
                goesTo("branch " + kind + " by " + i + ", not gone", 2, x);
                CHECK.due("its slot", x.register(10), 1);
            }
        }
    }

    // "8 a BRANCH, JUMP, SYSTEM or BREAK in a slot (before 7 by where it goes)."
    private static void barredSlots() {
        int[] barred = {Guest.SYSTEM, Guest.BREAK, Guest.function(8, 8, 0, 0, 0), Guest.function(9, 8, 0, 31, 0),
            Guest.jump(2, 0), Guest.jump(3, 0), Guest.immediate(1, 8, 0, 0), Guest.immediate(1, 8, 1, 0),
            Guest.immediate(1, 8, 16, 0), Guest.immediate(1, 8, 17, 0), Guest.branch(0), Guest.stay(0),
            Guest.immediate(6, 8, 0, 0), Guest.immediate(7, 8, 0, 0), Guest.SYSTEM | 0x03FFFFC0,
            Guest.BREAK | 0x03FFFFC0};
        for (int slot : barred) {
            for (int number : new int[] {0, 1, 2, 3}) {
                GuestRunner x = with(TEXT, Guest.jump(3, 0), slot, Guest.NOP);
                x.give(2, number);
                traps("8 by " + slot + ", register 2 = " + number, 8, x);
            }
            traps("8 by " + slot + ", it does not go", 8, with(TEXT, Guest.stay(0), slot, Guest.NOP));
            traps("8 before 7 of a branch: " + slot, 8, with(TEXT, Guest.branch(-2), slot, Guest.NOP));
            traps("8 before 7 of a jump: " + slot, 8, with(TEXT, Guest.jump(3, 3), slot, Guest.NOP));
            traps("8 before 7 of f 8: " + slot, 8, with(TEXT + 1, Guest.function(8, 8, 0, 0, 0), slot, Guest.NOP));
        }
        int[] allowed = {Guest.function(16, 0, 0, 10, 0), Guest.function(7, 8, 9, 10, 0), Guest.immediate(8, 0, 10, 1),
            Guest.NOP};
        for (int slot : allowed) {
            goesTo("no 8 by " + slot, 2, with(TEXT, Guest.branch(1), slot, Guest.NOP));
        }
    }

    // "10 SYSTEM with another number."
    private static void otherSystemNumbers() {
        for (int number : new int[] {0, 4, 5, -1, -2, -3, 10, 257, 258, 259, MIN, MIN + 1, MIN + 3, MAX}) {
            GuestRunner x = with(0, Guest.SYSTEM);
            x.input(5);
            x.give(2, number);
            traps("SYSTEM " + number, 10, x);
        }
    }

    // "(Of one access 2 before 3 and 6.)"
    private static void twoBeforeThreeAndSix() {
        for (int op : new int[] {33, 37, 41, 35, 43}) {
            for (int k = 1; k < bytes(op); k++) {
                access(op, k, 2);
                access(op, DATA - k, 2);
                access(op, DATA + 256 + k, 2);
                access(op, TEXT + k, 2);
                access(op, TEXT + 8 - k, 2);
                access(op, TEXT + 8 + k, 2);
                access(op, MIN + k, 2);
                access(op, -k, 2);
            }
        }
    }

    // "In a step of two, in this order: 7 for no slot, 8, 7 by where it goes, what its slot traps."
    private static void orderInAStepOfTwo() {
        int[] slots = {Guest.RESERVED, Guest.immediate(35, 8, 10, 1), Guest.immediate(35, 8, 10, 0), OVERFLOW,
            Guest.immediate(43, 11, 10, 0)};
        int[] numbers = {1, 2, 3, 4, 6};
        for (int k = 0; k < slots.length; k++) {
            traps("7 by where before " + numbers[k], 7, with(0, Guest.jump(3, 2), slots[k]));
            traps("7 by where of a branch before " + numbers[k], 7, with(0, Guest.branch(-2), slots[k]));
            traps("7 by where of f 9 before " + numbers[k], 7, with(0, Guest.function(9, 8, 0, 31, 0), slots[k]));
            GuestRunner x = with(0, Guest.jump(3, 0), slots[k]);
            x.give(11, TEXT);
            traps("it goes somewhere: " + numbers[k], numbers[k], x);
            GuestRunner y = with(0, Guest.stay(-2), slots[k]);
            y.give(11, TEXT);
            traps("it does not go: " + numbers[k], numbers[k], y);
        }
        GuestRunner noSlot = with(TEXT + 1, Guest.function(8, 8, 0, 0, 0));
        noSlot.word(Guest.BREAK);
        traps("no slot before a word not taken", 7, noSlot);
    }

    // "Whether there is fuel is asked behind 7 for PC"
    private static void fuelBehindPc() {
        CHECK.due("the last fuel, then PC outside", with(0, SLOT).run(1), 17);
        CHECK.due("the last fuel of 2, then PC outside", with(0, Guest.stay(0), SLOT).run(2), 17);
        int[] words = Guest.text(64, SLOT);
        CHECK.due("64 steps by 64, then PC outside", with(0, words).run(64), 17);
        CHECK.due("64 steps by 63", with(0, words).run(63), 0);
    }

    // ".. and before all else." (1 of fuel is too little for a step of two, whatever it would trap)
    private static void fuelBeforeAllElse() {
        int[] ends = {Guest.RESERVED, Guest.BREAK, OVERFLOW, Guest.SYSTEM, Guest.immediate(35, 0, 10, 1),
            Guest.immediate(35, 0, 10, 0), Guest.immediate(43, 8, 9, 0)};
        int[] answers = {11, 15, 14, 20, 12, 13, 16};
        for (int k = 0; k < ends.length; k++) {
            GuestRunner x = with(TEXT, SLOT, ends[k]);
            CHECK.due("no fuel left, before " + answers[k], x.run(1), 0);
            CHECK.due("fuel again: " + answers[k], x.run(1), answers[k]);
        }
        GuestRunner end = with(0, SLOT, Guest.SYSTEM);
        end.give(2, 3);
        CHECK.due("no fuel left, before the end", end.run(1), 0);
        CHECK.due("fuel again: the end", end.run(1), 1);
        int[][] twos = {{Guest.jump(2, 0)}, {Guest.branch(5)}, {Guest.jump(2, 0), Guest.BREAK},
            {Guest.jump(2, 0), Guest.jump(2, 0)}, {Guest.jump(2, 9), Guest.NOP}, {Guest.branch(-2), Guest.NOP},
            {Guest.jump(2, 0), Guest.RESERVED}, {Guest.jump(2, 0), OVERFLOW}};
        int[] wants = {17, 17, 18, 18, 17, 17, 11, 14};
        for (int k = 0; k < twos.length; k++) {
            GuestRunner x = with(0, twos[k]);
            CHECK.due("1 for two, before " + wants[k] + " (" + k + ")", x.run(1), 0);
            CHECK.due("1 for two, once more (" + k + ")", x.run(1), 0);
            CHECK.due("2 for two: " + wants[k] + " (" + k + ")", x.run(2), wants[k]);
        }
    }
}
