/** Makes guest words, and runners with a program begun. */
final class Guest {
    static final int TEXT = 4194304;
    static final int DATA = 268435456;
    static final int STACK = 268435712;
    static final int NOP = 0;
    static final int SYSTEM = function(12, 0, 0, 0, 0);
    static final int BREAK = function(13, 0, 0, 0, 0);
    static final int RESERVED = immediate(63, 0, 0, 0);

    private Guest() {
    }

    static int function(int f, int s, int t, int d, int h) {
        return s << 21 | t << 16 | d << 11 | h << 6 | f;
    }

    static int immediate(int op, int s, int t, int value) {
        return op << 26 | s << 21 | t << 16 | (value & 0xFFFF);
    }

    static int jump(int op, int wordNumber) {
        return op << 26 | (TEXT / 4 + wordNumber);
    }

    /** A branch that always goes. */
    static int branch(int i) {
        return immediate(4, 0, 0, i);
    }

    /** A branch that never goes. */
    static int stay(int i) {
        return immediate(5, 0, 0, i);
    }

    /** Register t becomes a small value. */
    static int load(int t, int value) {
        return immediate(9, 0, t, value);
    }

    /** Register t grows by a small value, without traps. */
    static int grow(int t, int value) {
        return immediate(9, t, t, value);
    }

    static int address(int wordNumber) {
        return TEXT + 4 * wordNumber;
    }

    static GuestRunner begun(int... words) {
        GuestRunner x = new GuestRunner();
        for (int w : words) {
            x.word(w);
        }
        x.begin();
        return x;
    }

    /** A text of so many words, all of them the same. */
    static int[] text(int count, int word) {
        int[] words = new int[count];
        java.util.Arrays.fill(words, word);
        return words;
    }

    /**
     * What can be seen of a runner from outside, but for what run() would answer. Of DATA it looks at both ends and
     * at every eighth byte between, as the document promises no more than 512 calls of an object.
     */
    static String state(GuestRunner x) {
        StringBuilder all = new StringBuilder();
        for (int k = 0; k <= 35; k++) {
            all.append(x.register(k)).append(' ');
        }
        for (int k = 0; k < 256; k += k < 16 || k >= 240 ? 1 : 8) {
            all.append(x.byteOf(k)).append(' ');
        }
        for (int k = 0; k < 256 && x.output(k) != GuestRunner.BAD; k++) {
            all.append(x.output(k)).append(' ');
        }
        return all.append(x.code()).toString();
    }
}
