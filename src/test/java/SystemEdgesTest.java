/** Terms, SYSTEM: a test for each sentence that names an edge; the sentence stands above it. */
public final class SystemEdgesTest {
    private static final Check CHECK = new Check();
    private static final int BAD = GuestRunner.BAD;
    private static final int MIN = Integer.MIN_VALUE;
    private static final int MAX = Integer.MAX_VALUE;

    public static void main(String[] args) {
        nextByte();
        endOfTheTapeIn();
        emptyTapeIn();
        fullTapeIn();
        lowestByte();
        fullTapeOut();
        ends();
        pcStays();
        CHECK.end();
    }

    private static GuestRunner systems(int number) {
        GuestRunner x = Guest.begun(Guest.text(64, Guest.SYSTEM));
        x.give(2, number);
        return x;
    }

    private static int read(GuestRunner x) {
        x.give(2, 1);
        CHECK.due("a read", x.run(1), 0);
        return x.register(2);
    }

    // "1: register 2 = the next byte of the tape in"
    private static void nextByte() {
        GuestRunner x = systems(1);
        int[] bytes = {0, 1, 127, 128, 255};
        for (int b : bytes) {
            x.input(b);
        }
        for (int b : bytes) {
            CHECK.due("byte " + b, read(x), b);
        }
        CHECK.due("PC", x.register(34), 5);
        CHECK.due("used", x.register(35), 5);
        CHECK.due("nothing out", x.output(0), BAD);
        CHECK.due("register 4 is left", x.register(4), 0);
    }

    // "-1 at its end"
    private static void endOfTheTapeIn() {
        GuestRunner x = systems(1);
        x.input(255);
        CHECK.due("the last byte", read(x), 255);
        CHECK.due("at the end", read(x), -1);
        CHECK.due("at the end, once more", read(x), -1);
        CHECK.due("the end is a step", x.register(35), 3);
        CHECK.due("a byte more", x.input(8), 2);
        CHECK.due("the byte more is the next", read(x), 8);
        CHECK.due("at the end anew", read(x), -1);
        x.begin();
        CHECK.due("begun: the first again", read(x), 255);
        CHECK.due("begun: the second", read(x), 8);
        CHECK.due("begun: the end", read(x), -1);
    }

    // "-1 at its end", of a tape without a byte
    private static void emptyTapeIn() {
        GuestRunner x = systems(1);
        CHECK.due("empty", read(x), -1);
        x.input(-1);
        x.input(256);
        CHECK.due("empty behind what was refused", read(x), -1);
        x.input(0);
        CHECK.due("a byte 0 is no end", read(x), 0);
    }

    // "-1 at its end", of a tape with 64
    private static void fullTapeIn() {
        // Reads for ever; a round takes 4 of fuel, and register 8 counts the bytes, 9 holds the last one.
        GuestRunner x = Guest.begun(Guest.load(2, 1), Guest.SYSTEM, Guest.immediate(1, 2, 0, -3), Guest.NOP,
                Guest.grow(8, 1), Guest.jump(2, 0), Guest.function(33, 2, 0, 9, 0));
        for (int k = 1; k <= 64; k++) {
            x.input(k);
        }
        x.input(99);
        CHECK.due("64 bytes", x.run(2000), 0);
        CHECK.due("64 bytes: counted", x.register(8), 64);
        CHECK.due("64 bytes: the last", x.register(9), 64);
    }

    // "2: the lowest byte of register 4 goes to the tape out"
    private static void lowestByte() {
        GuestRunner x = systems(2);
        int[] values = {0, 127, 128, 255, 256, 511, -1, -256, MIN, MAX, 0x12345678};
        int[] bytes = {0, 127, 128, 255, 0, 255, 255, 0, 0, 255, 0x78};
        for (int k = 0; k < values.length; k++) {
            CHECK.due("not yet " + k, x.output(k), BAD);
            x.give(4, values[k]);
            CHECK.due("a byte out", x.run(1), 0);
            CHECK.due("the lowest byte of " + values[k], x.output(k), bytes[k]);
        }
        CHECK.due("register 2 is left", x.register(2), 2);
        CHECK.due("register 4 is left", x.register(4), 0x12345678);
        CHECK.due("PC", x.register(34), values.length);
        CHECK.due("used", x.register(35), values.length);
    }

    // "(when that has 256, nothing does)"
    private static void fullTapeOut() {
        // Writes 1, 2, 3, .. for ever; a round takes 3 of fuel.
        GuestRunner x = Guest.begun(Guest.grow(4, 1), Guest.SYSTEM, Guest.branch(-2), Guest.grow(4, 1));
        x.give(2, 2);
        CHECK.due("255 bytes", x.run(1 + 3 * 255), 0);
        CHECK.due("the 255th", x.output(254), 255);
        CHECK.due("no 256th", x.output(255), BAD);
        CHECK.due("one more", x.run(3), 0);
        CHECK.due("the 256th", x.output(255), 0);
        CHECK.due("no 257th", x.output(256), BAD);
        CHECK.due("five more", x.run(15), 0);
        CHECK.due("the first is left", x.output(0), 1);
        CHECK.due("the 256th is left", x.output(255), 0);
        CHECK.due("still no 257th", x.output(256), BAD);
        CHECK.due("the steps are done all the same", x.register(4), 262);
        CHECK.due("their fuel is used", x.register(35), 1 + 3 * 261);
        x.begin();
        CHECK.due("begun: empty", x.output(0), BAD);
        CHECK.due("begun: empty to the last", x.output(255), BAD);
        x.give(2, 2);
        x.give(4, 40);
        x.run(2);
        CHECK.due("begun: room again", x.output(0), 41);
    }

    // "3: the program ENDS with register 4 as its CODE"
    private static void ends() {
        for (int code : new int[] {MIN, -1, 0, 1, 255, 256, MAX}) {
            GuestRunner x = systems(3);
            x.give(4, code);
            CHECK.due("an end with " + code, x.run(2000), 1);
            CHECK.due("its code", x.code(), code);
            CHECK.due("nothing out", x.output(0), BAD);
            CHECK.due("register 2 is left", x.register(2), 3);
            CHECK.due("register 4 is left", x.register(4), code);
            x.give(4, 12);
            CHECK.due("a code does not change", x.code(), code);
        }
    }

    // "PC stays."
    private static void pcStays() {
        GuestRunner first = systems(3);
        first.run(1);
        CHECK.due("PC at the first word", first.register(34), 0);
        CHECK.due("the end takes 1 of fuel", first.register(35), 1);
        int[] words = Guest.text(64, Guest.NOP);
        words[63] = Guest.SYSTEM;
        GuestRunner last = Guest.begun(words);
        last.give(2, 3);
        CHECK.due("an end at the last word, by the last fuel", last.run(64), 1);
        CHECK.due("PC at the last word", last.register(34), 63);
        CHECK.due("used", last.register(35), 64);
        CHECK.due("once more", last.run(2000), 1);
        CHECK.due("PC once more", last.register(34), 63);
        CHECK.due("used once more", last.register(35), 64);
    }
}
