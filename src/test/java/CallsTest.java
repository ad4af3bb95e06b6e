/** Promises 1 to 6 and 8 to 10: what the calls beside run() take, change and refuse. */
public final class CallsTest {
    private static final Check CHECK = new Check();
    private static final int[] FAR = {Integer.MIN_VALUE, -1000, Integer.MAX_VALUE};

    public static void main(String[] args) {
        newObject();
        word();
        wordCountsForNextBegin();
        set();
        setCountsForNextBegin();
        input();
        data();
        begin();
        beginAfterEnd();
        register();
        give();
        byteOf();
        outputAndCode();
        CHECK.end();
    }

    private static void newObject() {
        GuestRunner x = new GuestRunner();
        for (int k = 0; k <= 35; k++) {
            CHECK.due("new: register " + k, x.register(k), k == 29 ? 268435712 : 0);
        }
        for (int k = 0; k < 256; k++) {
            CHECK.due("new: byte " + k, x.byteOf(k), 0);
        }
        CHECK.due("new: output", x.output(0), GuestRunner.BAD);
        CHECK.due("new: code", x.code(), 0);
        CHECK.due("new: set", x.set(0, 0), GuestRunner.BAD);
        CHECK.due("new: run", x.run(1), 17);
        CHECK.due("new: no words", new GuestRunner().begin(), 0);
        CHECK.isTrue("new: as begun", Guest.state(new GuestRunner()).equals(Guest.state(Guest.begun())));
    }

    private static void word() {
        GuestRunner x = new GuestRunner();
        for (int k = 1; k <= 64; k++) {
            CHECK.due("word " + k, x.word(Guest.grow(8, 1)), k);
        }
        CHECK.due("word 65", x.word(Guest.BREAK), GuestRunner.FULL);
        CHECK.due("word 66", x.word(0), GuestRunner.FULL);
        CHECK.due("begin with 64", x.begin(), 64);
        CHECK.due("run of 64", x.run(2000), 17);
        CHECK.due("64 words done", x.register(8), 64);
        CHECK.due("PC behind 64", x.register(34), 64);
    }

    private static void wordCountsForNextBegin() {
        GuestRunner x = new GuestRunner();
        x.word(Guest.load(8, 1));
        CHECK.due("a word not begun", x.run(9), 17);
        x.begin();
        x.word(Guest.load(9, 2));
        CHECK.due("second word not begun", x.run(9), 17);
        CHECK.due("first word", x.register(8), 1);
        CHECK.due("second word", x.register(9), 0);
        CHECK.due("begin with two", x.begin(), 2);
        x.run(9);
        CHECK.due("second word begun", x.register(9), 2);
    }

    private static void set() {
        GuestRunner x = new GuestRunner();
        x.word(0);
        x.word(0);
        CHECK.due("set 0", x.set(0, Guest.load(8, 5)), 1);
        CHECK.due("set 1", x.set(1, Guest.load(9, 6)), 1);
        CHECK.due("set 2", x.set(2, 0), GuestRunner.BAD);
        CHECK.due("set -1", x.set(-1, 0), GuestRunner.BAD);
        for (int k : FAR) {
            CHECK.due("set " + k, x.set(k, 0), GuestRunner.BAD);
        }
        CHECK.due("set makes no word", x.begin(), 2);
        x.run(2);
        CHECK.due("set word 0", x.register(8), 5);
        CHECK.due("set word 1", x.register(9), 6);
    }

    private static void setCountsForNextBegin() {
        GuestRunner x = Guest.begun(Guest.NOP, Guest.load(8, 1));
        x.run(1);
        CHECK.due("set while it runs", x.set(1, Guest.load(8, 2)), 1);
        x.run(1);
        CHECK.due("the word as it was taken", x.register(8), 1);
        x.begin();
        x.run(2);
        CHECK.due("the word as it was set", x.register(8), 2);
    }

    private static void input() {
        GuestRunner x = new GuestRunner();
        CHECK.due("input -1", x.input(-1), GuestRunner.BAD);
        CHECK.due("input 256", x.input(256), GuestRunner.BAD);
        CHECK.due("input 0", x.input(0), 1);
        CHECK.due("input 255", x.input(255), 2);
        for (int k = 3; k <= 64; k++) {
            CHECK.due("input, the " + k, x.input(k), k);
        }
        CHECK.due("input, the 65", x.input(1), GuestRunner.FULL);
        CHECK.due("bad input when full", x.input(256), GuestRunner.BAD);
        x.begin();
        CHECK.due("begin keeps the tape in", x.input(1), GuestRunner.FULL);
    }

    private static void data() {
        GuestRunner x = Guest.begun(Guest.immediate(36, 8, 9, 0));
        CHECK.due("data 0", x.data(0, 255), 1);
        CHECK.due("data 255", x.data(255, 1), 1);
        CHECK.due("data -1", x.data(-1, 1), GuestRunner.BAD);
        CHECK.due("data 256", x.data(256, 1), GuestRunner.BAD);
        CHECK.due("data of -1", x.data(0, -1), GuestRunner.BAD);
        CHECK.due("data of 256", x.data(0, 256), GuestRunner.BAD);
        for (int k : FAR) {
            CHECK.due("data " + k, x.data(k, 1), GuestRunner.BAD);
            CHECK.due("data of " + k, x.data(0, k), GuestRunner.BAD);
        }
        CHECK.due("byte 0", x.byteOf(0), 255);
        CHECK.due("byte 255", x.byteOf(255), 1);
        x.give(8, Guest.DATA + 255);
        x.run(1);
        CHECK.due("data, at once", x.register(9), 1);
        x.begin();
        CHECK.due("begin keeps DATA", x.byteOf(0), 255);
    }

    private static void begin() {
        GuestRunner x = Guest.begun(Guest.load(2, 1), Guest.SYSTEM, Guest.load(2, 2), Guest.SYSTEM, Guest.BREAK);
        x.input(77);
        for (int k = 1; k <= 33; k++) {
            x.give(k, 100 + k);
        }
        CHECK.due("first run", x.run(9), 15);
        CHECK.due("first output", x.output(0), 104);
        CHECK.due("first used", x.register(35), 4);
        CHECK.due("begin", x.begin(), 5);
        for (int k = 0; k <= 35; k++) {
            CHECK.due("begun: register " + k, x.register(k), k == 29 ? 268435712 : 0);
        }
        CHECK.due("begun: output", x.output(0), GuestRunner.BAD);
        CHECK.due("begun: goes on", x.run(2), 0);
        CHECK.due("begun: the tape in anew", x.register(2), 77);
        CHECK.due("begun: traps again", x.run(9), 15);
        CHECK.due("begun: output anew", x.output(0), 0);
        CHECK.due("begun: output, one alone", x.output(1), GuestRunner.BAD);
    }

    private static void beginAfterEnd() {
        GuestRunner x = Guest.begun(Guest.load(2, 3), Guest.load(4, -9), Guest.SYSTEM);
        CHECK.due("ends", x.run(3), 1);
        CHECK.due("code", x.code(), -9);
        x.begin();
        CHECK.due("code after begin", x.code(), 0);
        CHECK.due("goes on after begin", x.run(2), 0);
        CHECK.due("code before the end", x.code(), 0);
        CHECK.due("ends again", x.run(1), 1);
        CHECK.due("code again", x.code(), -9);
    }

    private static void register() {
        GuestRunner x = Guest.begun(Guest.NOP, Guest.NOP);
        for (int k = 1; k <= 33; k++) {
            x.give(k, 1000 + k);
        }
        x.run(1);
        CHECK.due("register 0", x.register(0), 0);
        for (int k = 1; k <= 33; k++) {
            CHECK.due("register " + k, x.register(k), 1000 + k);
        }
        CHECK.due("PC", x.register(34), 1);
        CHECK.due("used", x.register(35), 1);
        CHECK.due("register 36", x.register(36), 0);
        CHECK.due("register -1", x.register(-1), 0);
        for (int k : FAR) {
            CHECK.due("register " + k, x.register(k), 0);
        }
    }

    private static void give() {
        GuestRunner x = new GuestRunner();
        CHECK.due("give 0", x.give(0, 5), GuestRunner.BAD);
        CHECK.due("register 0", x.register(0), 0);
        CHECK.due("give 1", x.give(1, Integer.MIN_VALUE), 1);
        CHECK.due("register 1", x.register(1), Integer.MIN_VALUE);
        CHECK.due("give 31", x.give(31, -1), 1);
        CHECK.due("give HI", x.give(32, 6), 1);
        CHECK.due("HI", x.register(32), 6);
        CHECK.due("give LO", x.give(33, 7), 1);
        CHECK.due("LO", x.register(33), 7);
        CHECK.due("give PC", x.give(34, 1), GuestRunner.BAD);
        CHECK.due("give used", x.give(35, 1), GuestRunner.BAD);
        CHECK.due("PC", x.register(34), 0);
        CHECK.due("give -1", x.give(-1, 1), GuestRunner.BAD);
        for (int k : FAR) {
            CHECK.due("give " + k, x.give(k, 1), GuestRunner.BAD);
        }
    }

    private static void byteOf() {
        GuestRunner x = new GuestRunner();
        x.data(255, 9);
        CHECK.due("byteOf 255", x.byteOf(255), 9);
        CHECK.due("byteOf 256", x.byteOf(256), GuestRunner.BAD);
        CHECK.due("byteOf -1", x.byteOf(-1), GuestRunner.BAD);
        for (int k : FAR) {
            CHECK.due("byteOf " + k, x.byteOf(k), GuestRunner.BAD);
        }
    }

    private static void outputAndCode() {
        GuestRunner x = Guest.begun(Guest.SYSTEM, Guest.SYSTEM, Guest.BREAK);
        x.give(2, 2);
        x.give(4, 0x1FF);
        x.run(2);
        CHECK.due("output 0", x.output(0), 255);
        CHECK.due("output 1", x.output(1), 255);
        CHECK.due("output 2", x.output(2), GuestRunner.BAD);
        CHECK.due("output -1", x.output(-1), GuestRunner.BAD);
        for (int k : FAR) {
            CHECK.due("output " + k, x.output(k), GuestRunner.BAD);
        }
        CHECK.due("trapped", x.run(1), 15);
        CHECK.due("no code of a trap", x.code(), 0);
    }
}
