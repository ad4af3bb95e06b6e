import java.math.BigInteger;
import java.util.ArrayList;
import java.util.List;

/**
 * The document once more, written another way, so that a slip in the class is no slip here: a step works on a copy
 * of all that it may change, and the copy is kept only if nothing trapped.
 */
final class Model {
    private static final BigInteger TWO_TO_32 = BigInteger.ONE.shiftLeft(32);

    private static final class Trap extends RuntimeException {
        private static final long serialVersionUID = 1;
        private final int number;

        Trap(int number) {
            super(null, null, false, false);
            this.number = number;
        }
    }

    private static final class State {
        private final int[] registers = new int[34];
        private final int[] bytes = new int[256];
        private final List<Integer> out = new ArrayList<>();
        private int pc;
        private int read;
        private boolean ended;

        State copy() {
            State other = new State();
            System.arraycopy(registers, 0, other.registers, 0, 34);
            System.arraycopy(bytes, 0, other.bytes, 0, 256);
            other.out.addAll(out);
            other.pc = pc;
            other.read = read;
            return other;
        }
    }

    private final List<Integer> draft = new ArrayList<>();
    private List<Integer> text = new ArrayList<>();
    private final List<Integer> in = new ArrayList<>();
    private State now = new State();
    private int used;
    private int answer;
    private int code;

    Model() {
        begin();
    }

    int word(int v) {
        if (draft.size() == 64) {
            return -2;
        }
        draft.add(v);
        return draft.size();
    }

    int set(int k, int v) {
        if (k < 0 || k >= draft.size()) {
            return -1;
        }
        draft.set(k, v);
        return 1;
    }

    int input(int b) {
        if ((b & ~255) != 0) {
            return -1;
        }
        if (in.size() == 64) {
            return -2;
        }
        in.add(b);
        return in.size();
    }

    int data(int k, int v) {
        if ((k & ~255) != 0 || (v & ~255) != 0) {
            return -1;
        }
        now.bytes[k] = v;
        return 1;
    }

    int begin() {
        State fresh = new State();
        System.arraycopy(now.bytes, 0, fresh.bytes, 0, 256);
        fresh.registers[29] = 268435456 + 256;
        now = fresh;
        text = new ArrayList<>(draft);
        used = 0;
        answer = 0;
        code = 0;
        return text.size();
    }

    int run(int fuel) {
        if (fuel < 1 || fuel > 2000) {
            return -1;
        }
        int left = fuel;
        while (answer == 0) {
            if (!hasWord(now.pc)) {
                answer = 17;
                break;
            }
            int cost = turns(text.get(now.pc)) ? 2 : 1;
            if (left < cost) {
                return 0;
            }
            State next = now.copy();
            try {
                step(next);
            } catch (Trap trap) {
                answer = 10 + trap.number;
                break;
            }
            now = next;
            left -= cost;
            used += cost;
            if (now.ended) {
                answer = 1;
                code = now.registers[4];
            }
        }
        return answer;
    }

    int register(int k) {
        return k >= 0 && k < 34 ? now.registers[k] : k == 34 ? now.pc : k == 35 ? used : 0;
    }

    int give(int k, int v) {
        if (k <= 0 || k > 33) {
            return -1;
        }
        now.registers[k] = v;
        return 1;
    }

    int byteOf(int k) {
        return (k & ~255) == 0 ? now.bytes[k] : -1;
    }

    int output(int k) {
        return k >= 0 && k < now.out.size() ? now.out.get(k) : -1;
    }

    int code() {
        return code;
    }

    private boolean hasWord(long k) {
        return k >= 0 && k < text.size();
    }

    private static int part(int w, int from, int bits) {
        return (w >>> from) & ((1 << bits) - 1);
    }

    private static boolean turns(int w) {
        int op = part(w, 26, 6);
        int f = part(w, 0, 6);
        return op == 0 ? f == 8 || f == 9 : op == 1 ? (part(w, 16, 5) & 14) == 0 : op < 8;
    }

    private void step(State x) {
        int w = text.get(x.pc);
        if (!turns(w)) {
            int at = x.pc;
            instruction(x, w);
            x.pc = x.ended ? at : at + 1;
            return;
        }
        if (!hasWord(x.pc + 1)) {
            throw new Trap(7);
        }
        int slot = text.get(x.pc + 1);
        boolean stops = part(slot, 26, 6) == 0 && (part(slot, 0, 6) == 12 || part(slot, 0, 6) == 13);
        if (stops || turns(slot)) {
            throw new Trap(8);
        }
        long goesTo = goes(x, w) ? addressAimedAt(x, w) : 4194304L + 4 * (x.pc + 2);
        boolean inText = goesTo % 4 == 0 && hasWord(Math.floorDiv(goesTo - 4194304L, 4L));
        if (goes(x, w) && !inText) {
            throw new Trap(7);
        }
        link(x, w);
        instruction(x, slot);
        x.pc = (int) ((goesTo - 4194304L) / 4);
    }

    private static boolean goes(State x, int w) {
        int op = part(w, 26, 6);
        int s = x.registers[part(w, 21, 5)];
        int t = x.registers[part(w, 16, 5)];
        boolean even = part(w, 16, 1) == 0;
        return op == 1 ? even == (s < 0) : op == 4 ? s == t : op == 5 ? s != t : op == 6 ? s < 1 : op != 7 || s >= 1;
    }

    private static long addressAimedAt(State x, int w) {
        int op = part(w, 26, 6);
        if (op == 0) {
            return x.registers[part(w, 21, 5)] & 0xFFFFFFFFL;
        }
        if (op == 2 || op == 3) {
            return 4L * part(w, 0, 26);
        }
        return 4194304L + 4L * (x.pc + 1 + (short) w);
    }

    private static void link(State x, int w) {
        int op = part(w, 26, 6);
        int value = 4194304 + 4 * (x.pc + 2);
        if (op == 3 || (op == 1 && part(w, 16, 5) >= 16)) {
            x.registers[31] = value;
        }
        if (op == 0 && part(w, 0, 6) == 9) {
            x.registers[part(w, 11, 5)] = value;
        }
        x.registers[0] = 0;
    }

    private void instruction(State x, int w) {
        int op = part(w, 26, 6);
        if (op == 0) {
            function(x, w);
        } else if (op >= 8 && op <= 15) {
            x.registers[part(w, 16, 5)] = ofImmediate(op, x.registers[part(w, 21, 5)], w);
        } else {
            access(x, w);
        }
        x.registers[0] = 0;
    }

    private static BigInteger big(int v, boolean signed) {
        BigInteger b = BigInteger.valueOf(v);
        return signed || v >= 0 ? b : b.add(TWO_TO_32);
    }

    private static int below(int a, int b, boolean signed) {
        return big(a, signed).compareTo(big(b, signed)) < 0 ? 1 : 0;
    }

    private static int sum(int a, int b, boolean minus, boolean traps) {
        BigInteger v = minus ? big(a, true).subtract(big(b, true)) : big(a, true).add(big(b, true));
        if (traps && v.bitLength() > 31) {
            throw new Trap(4);
        }
        return v.intValue();
    }

    private static int ofImmediate(int op, int s, int w) {
        int i = (short) w;
        int u = (char) w;
        return switch (op) {
            case 8 -> sum(s, i, false, true);
            case 9 -> sum(s, i, false, false);
            case 10 -> below(s, i, true);
            case 11 -> below(s, i, false);
            case 12 -> s & u;
            case 13 -> s | u;
            case 14 -> s ^ u;
            default -> u * 65536;
        };
    }

    private void function(State x, int w) {
        int f = part(w, 0, 6);
        int s = x.registers[part(w, 21, 5)];
        int t = x.registers[part(w, 16, 5)];
        int d = part(w, 11, 5);
        int h = part(w, 6, 5);
        switch (f) {
            case 12 -> system(x);
            case 13 -> throw new Trap(5);
            case 17 -> x.registers[32] = s;
            case 19 -> x.registers[33] = s;
            case 24, 25 -> {
                BigInteger product = big(s, f == 24).multiply(big(t, f == 24));
                x.registers[32] = product.shiftRight(32).intValue();
                x.registers[33] = product.intValue();
            }
            case 26, 27 -> {
                BigInteger[] both = t == 0 ? new BigInteger[] {BigInteger.valueOf(-1), big(s, true)}
                        : big(s, f == 26).divideAndRemainder(big(t, f == 26));
                x.registers[33] = both[0].intValue();
                x.registers[32] = both[1].intValue();
            }
            default -> x.registers[d] = ofFunction(x, f, s, t, h);
        }
    }

    private static int ofFunction(State x, int f, int s, int t, int h) {
        int by = f < 4 ? h : Math.floorMod(s, 32);
        return switch (f) {
            case 0, 4 -> big(t, true).shiftLeft(by).intValue();
            case 2, 6 -> big(t, false).shiftRight(by).intValue();
            case 3, 7 -> big(t, true).shiftRight(by).intValue();
            case 16 -> x.registers[32];
            case 18 -> x.registers[33];
            case 32, 33 -> sum(s, t, false, f == 32);
            case 34, 35 -> sum(s, t, true, f == 34);
            case 36 -> s & t;
            case 37 -> s | t;
            case 38 -> s ^ t;
            case 39 -> ~s & ~t;
            case 42 -> below(s, t, true);
            case 43 -> below(s, t, false);
            default -> throw new Trap(1);
        };
    }

    private void system(State x) {
        switch (x.registers[2]) {
            case 1 -> x.registers[2] = x.read < in.size() ? in.get(x.read++) : -1;
            case 2 -> {
                if (x.out.size() < 256) {
                    x.out.add(x.registers[4] & 255);
                }
            }
            case 3 -> x.ended = true;
            default -> throw new Trap(10);
        }
    }

    private void access(State x, int w) {
        int op = part(w, 26, 6);
        int t = part(w, 16, 5);
        int count = switch (op) {
            case 32, 36, 40 -> 1;
            case 33, 37, 41 -> 2;
            case 35, 43 -> 4;
            default -> throw new Trap(1);
        };
        long address = (x.registers[part(w, 21, 5)] + (short) w) & 0xFFFFFFFFL;
        if (address % count != 0) {
            throw new Trap(2);
        }
        if (address < 268435456L || address >= 268435456L + 256) {
            boolean inText = address >= 4194304L && address < 4194304L + 4L * text.size();
            throw new Trap(op >= 40 && inText ? 6 : 3);
        }
        int at = (int) (address - 268435456L);
        if (op >= 40) {
            for (int k = 0; k < count; k++) {
                x.bytes[at + k] = part(x.registers[t], 8 * (count - 1 - k), 8);
            }
            return;
        }
        long value = 0;
        for (int k = 0; k < count; k++) {
            value = value * 256 + x.bytes[at + k];
        }
        boolean negative = op < 36 && x.bytes[at] > 127;
        x.registers[t] = (int) (negative ? value - (1L << (8 * count)) : value);
    }
}
