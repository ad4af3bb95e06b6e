/** Makes guest words, and runners with a program begun. */
final class Guest {
    static final int TEXT = 4194304;
    static final int DATA = 268435456;
    static final int NOP = 0;
    static final int SYSTEM = function(12, 0, 0, 0, 0);
    static final int BREAK = function(13, 0, 0, 0, 0);
    static final int RESERVED = immediate(63, 0, 0, 0);

    private Guest() {
    }

    static int function(int f, int s, int t, int d, int h) {
        return s << 21 | t << 16 | d << 11 | h << 6 | f;
    }

    static int immediate(int op, int s, int t, int value) {
        return op << 26 | s << 21 | t << 16 | (value & 0xFFFF);
    }

    static int jump(int op, int wordNumber) {
        return op << 26 | (TEXT / 4 + wordNumber);
    }

    /** Register t becomes a small value. */
    static int load(int t, int value) {
        return immediate(9, 0, t, value);
    }

    /** Register t grows by a small value, without traps. */
    static int grow(int t, int value) {
        return immediate(9, t, t, value);
    }

    static int address(int wordNumber) {
        return TEXT + 4 * wordNumber;
    }

    static GuestRunner begun(int... words) {
        GuestRunner x = new GuestRunner();
        for (int w : words) {
            x.word(w);
        }
        x.begin();
        return x;
    }

    /** All that can be seen of a runner from outside, but for what run() would answer. */
    static String state(GuestRunner x) {
        StringBuilder all = new StringBuilder();
        for (int k = 0; k <= 35; k++) {
            all.append(x.register(k)).append(' ');
        }
        for (int k = 0; k < 256; k++) {
            all.append(x.byteOf(k)).append(' ').append(x.output(k)).append(' ');
        }
        return all.append(x.code()).toString();
    }
}
