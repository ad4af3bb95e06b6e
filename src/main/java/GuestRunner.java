/** Runs a guest program of 32-bit words by its processor's rules, in pieces of fuel. */
public final class GuestRunner {
    public static final int BAD = -1;
    public static final int FULL = -2;

    private static final int MOST_WORDS = 64;
    private static final int MOST_INPUT = 64;
    private static final int MOST_OUTPUT = 256;
    private static final int MOST_FUEL = 2000;
    private static final int DATA_BYTES = 256;
    private static final int TEXT_BASE = 4194304;
    private static final int DATA_BASE = 268435456;
    private static final int STACK_TOP = 268435712;

    // HI and LO stand behind the registers in one row, numbered as register() and give() number them.
    private static final int NUMBER_REGISTER = 2;
    private static final int ARGUMENT_REGISTER = 4;
    private static final int STACK_REGISTER = 29;
    private static final int LINK_REGISTER = 31;
    private static final int HI = 32;
    private static final int LO = 33;
    private static final int ROW_LENGTH = 34;
    private static final int PC_NUMBER = 34;
    private static final int USED_NUMBER = 35;

    private static final int GOING = 0;
    private static final int ENDED = 1;
    private static final int TRAPPED = 10;

    private static final int NO_TRAP = 0;
    private static final int TRAP_RESERVED = 1;
    private static final int TRAP_UNALIGNED = 2;
    private static final int TRAP_OUTSIDE = 3;
    private static final int TRAP_OVERFLOW = 4;
    private static final int TRAP_BREAK = 5;
    private static final int TRAP_TEXT_WRITE = 6;
    private static final int TRAP_PC = 7;
    private static final int TRAP_SLOT = 8;
    private static final int TRAP_SYSTEM = 10;

    private static final int NOWHERE = -1;

    // What word() and set() change; begin() copies it, so a running program never sees the change.
    private final int[] draft;
    private int draftCount;
    private final int[] text;
    private int textCount;

    private final int[] registers;
    private final int[] memory;
    private final int[] tapeIn;
    private int inCount;
    private int inRead;
    private final int[] tapeOut;
    private int outCount;

    private int pc;
    private int used;
    private int outcome;
    private int endCode;

    public GuestRunner() {
        draft = new int[MOST_WORDS];
        text = new int[MOST_WORDS];
        registers = new int[ROW_LENGTH];
        memory = new int[DATA_BYTES];
        tapeIn = new int[MOST_INPUT];
        tapeOut = new int[MOST_OUTPUT];
        registers[STACK_REGISTER] = STACK_TOP;
    }

    public int word(int v) {
        if (draftCount >= MOST_WORDS) {
            return FULL;
        }
        draft[draftCount] = v;
        draftCount++;
        return draftCount;
    }

    public int set(int k, int v) {
        if (k < 0 || k >= draftCount) {
            return BAD;
        }
        draft[k] = v;
        return 1;
    }

    public int input(int b) {
        if (!isByte(b)) {
            return BAD;
        }
        if (inCount >= MOST_INPUT) {
            return FULL;
        }
        tapeIn[inCount] = b;
        inCount++;
        return inCount;
    }

    public int data(int k, int v) {
        if (!isDataIndex(k) || !isByte(v)) {
            return BAD;
        }
        memory[k] = v;
        return 1;
    }

    public int begin() {
        for (int k = 0; k < draftCount; k++) {
            text[k] = draft[k];
        }
        textCount = draftCount;
        for (int k = 0; k < ROW_LENGTH; k++) {
            registers[k] = 0;
        }
        registers[STACK_REGISTER] = STACK_TOP;
        inRead = 0;
        outCount = 0;
        pc = 0;
        used = 0;
        outcome = GOING;
        endCode = 0;
        return textCount;
    }

    public int run(int fuel) {
        if (fuel < 1 || fuel > MOST_FUEL) {
            return BAD;
        }
        int left = fuel;
        // One round more than there is fuel, as a PC outside of the text traps without any.
        for (int round = 0; round <= fuel && outcome == GOING; round++) {
            if (!isInText(pc)) {
                outcome = TRAPPED + TRAP_PC;
                return outcome;
            }
            int w = text[pc];
            int cost = isTurn(w) ? 2 : 1;
            if (cost > left) {
                return GOING;
            }
            int trap = cost == 2 ? stepOfTwo(w) : stepOfOne(w);
            if (trap != NO_TRAP) {
                outcome = TRAPPED + trap;
                return outcome;
            }
            left -= cost;
            used += cost;
        }
        return outcome;
    }

    public int register(int k) {
        if (k == PC_NUMBER) {
            return pc;
        }
        if (k == USED_NUMBER) {
            return used;
        }
        return k >= 0 && k < ROW_LENGTH ? registers[k] : 0;
    }

    public int give(int k, int v) {
        if (k < 1 || k >= ROW_LENGTH) {
            return BAD;
        }
        registers[k] = v;
        return 1;
    }

    public int byteOf(int k) {
        return isDataIndex(k) ? memory[k] : BAD;
    }

    public int output(int k) {
        return k >= 0 && k < outCount ? tapeOut[k] : BAD;
    }

    public int code() {
        return endCode;
    }

    // The parts of a word.

    private static int opOf(int w) {
        return w >>> 26;
    }

    private static int sOf(int w) {
        return (w >>> 21) & 31;
    }

    private static int tOf(int w) {
        return (w >>> 16) & 31;
    }

    private static int dOf(int w) {
        return (w >>> 11) & 31;
    }

    private static int hOf(int w) {
        return (w >>> 6) & 31;
    }

    private static int fOf(int w) {
        return w & 63;
    }

    private static int signedImmediate(int w) {
        return (w << 16) >> 16;
    }

    private static int plainImmediate(int w) {
        return w & 0xFFFF;
    }

    // A BRANCH or a JUMP, whether or not it goes; a RESERVED word is none.
    private static boolean isTurn(int w) {
        int op = opOf(w);
        if (op == 0) {
            return fOf(w) == 8 || fOf(w) == 9;
        }
        if (op == 1) {
            int t = tOf(w);
            return t == 0 || t == 1 || t == 16 || t == 17;
        }
        return op >= 2 && op <= 7;
    }

    private static boolean isBarredFromSlots(int w) {
        boolean isSystemOrBreak = opOf(w) == 0 && (fOf(w) == 12 || fOf(w) == 13);
        return isSystemOrBreak || isTurn(w);
    }

    // Steps. Each answers its trap and has changed nothing if there is one.

    private int stepOfOne(int w) {
        int trap = perform(w);
        if (trap == NO_TRAP && outcome == GOING) {
            pc++;
        }
        return trap;
    }

    private int stepOfTwo(int w) {
        int slotAt = pc + 1;
        if (!isInText(slotAt)) {
            return TRAP_PC;
        }
        int slot = text[slotAt];
        if (isBarredFromSlots(slot)) {
            return TRAP_SLOT;
        }
        boolean goes = turnGoes(w);
        int next = goes ? aimOf(w) : slotAt + 1;
        if (goes && !isInText(next)) {
            return TRAP_PC;
        }
        int link = linkRegisterOf(w);
        int before = registers[link];
        put(link, addressOf(pc + 2));
        int trap = perform(slot);
        if (trap != NO_TRAP) {
            registers[link] = before;
            return trap;
        }
        pc = next;
        return NO_TRAP;
    }

    private boolean turnGoes(int w) {
        int s = registers[sOf(w)];
        int t = registers[tOf(w)];
        switch (opOf(w)) {
            case 1:
                return (tOf(w) & 1) == 0 ? s < 0 : s >= 0;
            case 4:
                return s == t;
            case 5:
                return s != t;
            case 6:
                return s <= 0;
            case 7:
                return s > 0;
            default:
                return true;
        }
    }

    // The number of the word to which a turn goes; it need not be in the text.
    private int aimOf(int w) {
        int behind = pc + 1;
        switch (opOf(w)) {
            case 0:
                return wordAt(registers[sOf(w)]);
            case 2:
            case 3:
                return wordAt((addressOf(behind) & 0xF0000000) | ((w & 0x03FFFFFF) << 2));
            default:
                return behind + signedImmediate(w);
        }
    }

    // 0 where there is no LINK, as what is put into register 0 is lost.
    private static int linkRegisterOf(int w) {
        switch (opOf(w)) {
            case 0:
                return fOf(w) == 9 ? dOf(w) : 0;
            case 1:
                return tOf(w) >= 16 ? LINK_REGISTER : 0;
            case 3:
                return LINK_REGISTER;
            default:
                return 0;
        }
    }

    // Instructions that are no turn. Each answers its trap and has changed nothing if there is one.

    private int perform(int w) {
        int op = opOf(w);
        if (op == 0) {
            return performFunction(w);
        }
        return op < 32 ? performImmediate(w) : performAccess(w);
    }

    private int performFunction(int w) {
        int f = fOf(w);
        if (f < 8) {
            return performShift(w);
        }
        if (f == 12) {
            return performSystem();
        }
        if (f == 13) {
            return TRAP_BREAK;
        }
        return f < 32 ? performHiLo(w) : performArithmetic(w);
    }

    private int performShift(int w) {
        int t = registers[tOf(w)];
        int h = hOf(w);
        int byS = registers[sOf(w)] & 31;
        int d = dOf(w);
        switch (fOf(w)) {
            case 0:
                return put(d, t << h);
            case 2:
                return put(d, t >>> h);
            case 3:
                return put(d, t >> h);
            case 4:
                return put(d, t << byS);
            case 6:
                return put(d, t >>> byS);
            case 7:
                return put(d, t >> byS);
            default:
                return TRAP_RESERVED;
        }
    }

    private int performHiLo(int w) {
        int s = registers[sOf(w)];
        int t = registers[tOf(w)];
        switch (fOf(w)) {
            case 16:
                return put(dOf(w), registers[HI]);
            case 17:
                return put(HI, s);
            case 18:
                return put(dOf(w), registers[LO]);
            case 19:
                return put(LO, s);
            case 24:
                return putProduct((long) s * (long) t);
            case 25:
                return putProduct(unsigned(s) * unsigned(t));
            case 26:
                return divide(s, t);
            case 27:
                return divide(unsigned(s), unsigned(t));
            default:
                return TRAP_RESERVED;
        }
    }

    private int putProduct(long product) {
        put(HI, (int) (product >>> 32));
        return put(LO, (int) product);
    }

    // In 64 bits, so that -2^31 by -1 needs no case of its own.
    private int divide(long dividend, long divisor) {
        if (divisor == 0) {
            put(HI, (int) dividend);
            return put(LO, -1);
        }
        put(HI, (int) (dividend % divisor));
        return put(LO, (int) (dividend / divisor));
    }

    private int performArithmetic(int w) {
        int s = registers[sOf(w)];
        int t = registers[tOf(w)];
        int d = dOf(w);
        switch (fOf(w)) {
            case 32:
                return putUnlessOverflow(d, (long) s + (long) t);
            case 33:
                return put(d, s + t);
            case 34:
                return putUnlessOverflow(d, (long) s - (long) t);
            case 35:
                return put(d, s - t);
            case 36:
                return put(d, s & t);
            case 37:
                return put(d, s | t);
            case 38:
                return put(d, s ^ t);
            case 39:
                return put(d, ~(s | t));
            case 42:
                return put(d, s < t ? 1 : 0);
            case 43:
                return put(d, unsigned(s) < unsigned(t) ? 1 : 0);
            default:
                return TRAP_RESERVED;
        }
    }

    private int performImmediate(int w) {
        int s = registers[sOf(w)];
        int t = tOf(w);
        int i = signedImmediate(w);
        int u = plainImmediate(w);
        switch (opOf(w)) {
            case 8:
                return putUnlessOverflow(t, (long) s + (long) i);
            case 9:
                return put(t, s + i);
            case 10:
                return put(t, s < i ? 1 : 0);
            case 11:
                return put(t, unsigned(s) < unsigned(i) ? 1 : 0);
            case 12:
                return put(t, s & u);
            case 13:
                return put(t, s | u);
            case 14:
                return put(t, s ^ u);
            case 15:
                return put(t, u << 16);
            default:
                return TRAP_RESERVED;
        }
    }

    private int performSystem() {
        switch (registers[NUMBER_REGISTER]) {
            case 1:
                return readByte();
            case 2:
                return writeByte();
            case 3:
                endCode = registers[ARGUMENT_REGISTER];
                outcome = ENDED;
                return NO_TRAP;
            default:
                return TRAP_SYSTEM;
        }
    }

    private int readByte() {
        if (inRead >= inCount) {
            return put(NUMBER_REGISTER, -1);
        }
        int b = tapeIn[inRead];
        inRead++;
        return put(NUMBER_REGISTER, b);
    }

    private int writeByte() {
        if (outCount < MOST_OUTPUT) {
            tapeOut[outCount] = registers[ARGUMENT_REGISTER] & 255;
            outCount++;
        }
        return NO_TRAP;
    }

    private int performAccess(int w) {
        int op = opOf(w);
        int bytes = bytesOfAccess(op);
        if (bytes == 0) {
            return TRAP_RESERVED;
        }
        boolean isStore = op >= 40;
        int address = registers[sOf(w)] + signedImmediate(w);
        if ((address & (bytes - 1)) != 0) {
            return TRAP_UNALIGNED;
        }
        int at = address - DATA_BASE;
        if (at < 0 || at > DATA_BYTES - bytes) {
            return isStore && isTextAddress(address) ? TRAP_TEXT_WRITE : TRAP_OUTSIDE;
        }
        if (isStore) {
            return store(at, bytes, registers[tOf(w)]);
        }
        boolean isSigned = op < 36;
        return put(tOf(w), load(at, bytes, isSigned));
    }

    // 0 for an OP that is RESERVED.
    private static int bytesOfAccess(int op) {
        switch (op) {
            case 32:
            case 36:
            case 40:
                return 1;
            case 33:
            case 37:
            case 41:
                return 2;
            case 35:
            case 43:
                return 4;
            default:
                return 0;
        }
    }

    // Of load and store: performAccess has looked whether all the bytes are in DATA.

    private int load(int at, int bytes, boolean isSigned) {
        int value = 0;
        for (int k = 0; k < bytes; k++) {
            value = (value << 8) | memory[at + k];
        }
        int spare = 32 - 8 * bytes;
        return isSigned ? (value << spare) >> spare : value;
    }

    private int store(int at, int bytes, int value) {
        int rest = value;
        for (int k = bytes - 1; k >= 0; k--) {
            memory[at + k] = rest & 255;
            rest = rest >>> 8;
        }
        return NO_TRAP;
    }

    // All that instructions put goes through here, so that register 0 stays 0; NO_TRAP is for callers to hand on.
    private int put(int k, int v) {
        if (k > 0 && k < ROW_LENGTH) {
            registers[k] = v;
        }
        return NO_TRAP;
    }

    private int putUnlessOverflow(int k, long v) {
        return v == (int) v ? put(k, (int) v) : TRAP_OVERFLOW;
    }

    private static long unsigned(int v) {
        return v & 0xFFFFFFFFL;
    }

    private static boolean isByte(int v) {
        return v >= 0 && v <= 255;
    }

    private static boolean isDataIndex(int k) {
        return k >= 0 && k < DATA_BYTES;
    }

    private boolean isInText(int k) {
        return k >= 0 && k < textCount;
    }

    private static int addressOf(int k) {
        return TEXT_BASE + 4 * k;
    }

    private boolean isTextAddress(int address) {
        int offset = address - TEXT_BASE;
        return offset >= 0 && offset < 4 * textCount;
    }

    private int wordAt(int address) {
        if ((address & 3) != 0 || !isTextAddress(address)) {
            return NOWHERE;
        }
        return (address - TEXT_BASE) >> 2;
    }
}
