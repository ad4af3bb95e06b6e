/** Promises 4, 7, 11 and 12: SYSTEM, the tapes, and the CODE. */
public final class TapeTest {
    private static final Check CHECK = new Check();

    public static void main(String[] args) {
        reading();
        readingPastTheEnd();
        writing();
        fullTapeOut();
        ending();
        CHECK.end();
    }

    private static int readNext(GuestRunner x) {
        x.give(2, 1);
        CHECK.due("a read", x.run(1), 0);
        return x.register(2);
    }

    private static GuestRunner systems() {
        int[] words = new int[64];
        for (int k = 0; k < 64; k++) {
            words[k] = Guest.SYSTEM;
        }
        return Guest.begun(words);
    }

    private static void reading() {
        GuestRunner x = systems();
        x.input(0);
        x.input(255);
        x.input(128);
        CHECK.due("byte 0", readNext(x), 0);
        CHECK.due("byte 255, without sign", readNext(x), 255);
        CHECK.due("byte 128, without sign", readNext(x), 128);
        CHECK.due("at the end", readNext(x), -1);
        x.begin();
        CHECK.due("anew", readNext(x), 0);
        CHECK.due("anew, the second", readNext(x), 255);
        CHECK.due("no output by a read", x.output(0), GuestRunner.BAD);
    }

    private static void readingPastTheEnd() {
        GuestRunner x = systems();
        CHECK.due("an empty tape", readNext(x), -1);
        CHECK.due("an empty tape again", readNext(x), -1);
        CHECK.due("a byte at once", x.input(9), 1);
        CHECK.due("the end moved nothing", readNext(x), 9);
        for (int k = 2; k <= 64; k++) {
            x.input(k);
        }
        for (int k = 2; k <= 60; k++) {
            CHECK.due("byte " + k, readNext(x), k);
        }
    }

    private static void writing() {
        GuestRunner x = systems();
        x.give(2, 2);
        for (int v : new int[] {65, -1, 256, 0x12345680}) {
            x.give(4, v);
            x.run(1);
        }
        CHECK.due("output 0", x.output(0), 65);
        CHECK.due("output 1", x.output(1), 255);
        CHECK.due("output 2", x.output(2), 0);
        CHECK.due("output 3", x.output(3), 128);
        CHECK.due("output 4", x.output(4), GuestRunner.BAD);
        CHECK.due("register 2 stays", x.register(2), 2);
        CHECK.due("register 4 stays", x.register(4), 0x12345680);
        CHECK.due("PC", x.register(34), 4);
    }

    private static void fullTapeOut() {
        // Writes 0, 1, 2, .. for ever; a round takes 3 of fuel.
        GuestRunner x = Guest.begun(Guest.load(2, 2), Guest.SYSTEM, Guest.jump(2, 1), Guest.grow(4, 1));
        CHECK.due("255 bytes and the begin", x.run(1 + 3 * 255), 0);
        CHECK.due("byte 254", x.output(254), 254);
        CHECK.due("byte 255 not yet", x.output(255), GuestRunner.BAD);
        CHECK.due("five more", x.run(15), 0);
        CHECK.due("byte 255", x.output(255), 255);
        CHECK.due("byte 256", x.output(256), GuestRunner.BAD);
        CHECK.due("byte 0 stays", x.output(0), 0);
        CHECK.due("it went on", x.register(4), 260);
        x.begin();
        CHECK.due("empty again", x.output(0), GuestRunner.BAD);
        x.run(2);
        CHECK.due("one again", x.output(0), 0);
        CHECK.due("one alone", x.output(1), GuestRunner.BAD);
    }

    private static void ending() {
        GuestRunner x = Guest.begun(Guest.NOP, Guest.SYSTEM, Guest.BREAK);
        x.give(2, 3);
        x.give(4, Integer.MIN_VALUE);
        CHECK.due("no code before", x.code(), 0);
        CHECK.due("ended", x.run(5), 1);
        CHECK.due("code", x.code(), Integer.MIN_VALUE);
        CHECK.due("PC stays", x.register(34), 1);
        CHECK.due("fuel", x.register(35), 2);
        x.give(4, 5);
        x.give(2, 1);
        CHECK.due("once more", x.run(2000), 1);
        CHECK.due("code once more", x.code(), Integer.MIN_VALUE);
        CHECK.due("PC once more", x.register(34), 1);
        CHECK.due("fuel once more", x.register(35), 2);
        GuestRunner last = Guest.begun(Guest.SYSTEM);
        last.give(2, 3);
        CHECK.due("ended by the last fuel at the last word", last.run(1), 1);
        CHECK.due("code 0", last.code(), 0);
    }
}
