/** Promises 1 to 12: a test for each sentence that names an edge or a refused call; the sentence stands above it. */
public final class CallEdgesTest {
    private static final Check CHECK = new Check();
    private static final int BAD = GuestRunner.BAD;
    private static final int FULL = GuestRunner.FULL;
    private static final int MIN = Integer.MIN_VALUE;
    private static final int MAX = Integer.MAX_VALUE;

    public static void main(String[] args) {
        atMost512Calls();
        noText();
        dataAllZero();
        asBegun();
        wordsAreCounted();
        wordFull();
        wordForNextBegin();
        setBad();
        setForNextBegin();
        inputBad();
        inputFull();
        dataBad();
        dataAtOnce();
        beginTakesTheProgram();
        beginTakesNoWords();
        beginClearsRegisters();
        beginClearsPcAndSteps();
        beginTapes();
        beginEndsWhatStopped();
        beginKeepsTheRest();
        runAsLongAsThereIsFuel();
        runEnded();
        runTrapped();
        runBad();
        runTheSameOnceMore();
        registerOthers();
        registerUsedSinceBegin();
        giveBad();
        giveAny();
        byteOfBad();
        outputBad();
        codeElse();
        CHECK.end();
    }

    /** Refused: it answers what is due, and nothing that can be seen has changed. */
    private static void unchanged(String what, GuestRunner x, String before) {
        CHECK.isTrue(what + " leaves all as it was", before.equals(Guest.state(x)));
    }

    private static GuestRunner full() {
        return Guest.begun(Guest.text(64, Guest.grow(8, 1)));
    }

    /** A program that ends with the code. */
    private static GuestRunner ended(int code) {
        GuestRunner x = Guest.begun(Guest.SYSTEM);
        x.give(2, 3);
        x.give(4, code);
        CHECK.due("an end", x.run(1), 1);
        return x;
    }

    // "An object is used for at most 512 calls after it has been made."
    private static void atMost512Calls() {
        GuestRunner x = Guest.begun(Guest.jump(2, 0), Guest.grow(8, 1));
        int calls = 3;
        for (; calls < 510; calls++) {
            CHECK.due("call " + calls, x.run(2000), 0);
        }
        CHECK.due("call 511", x.register(35), 507 * 2000);
        CHECK.due("call 512", x.register(8), 507 * 1000);
    }

    // Promise 1: "No text"
    private static void noText() {
        CHECK.due("no text: run(1)", new GuestRunner().run(1), 17);
        CHECK.due("no text: run(2000)", new GuestRunner().run(2000), 17);
        CHECK.due("no text: begin()", new GuestRunner().begin(), 0);
        CHECK.due("no text: set(0)", new GuestRunner().set(0, 0), BAD);
        CHECK.due("no text: the first word", new GuestRunner().word(0), 1);
        GuestRunner x = new GuestRunner();
        x.run(1);
        CHECK.due("no text: PC stays", x.register(34), 0);
        CHECK.due("no text: no fuel used", x.register(35), 0);
        CHECK.due("no text: once more", x.run(1), 17);
    }

    // Promise 1: "DATA is all 0"
    private static void dataAllZero() {
        GuestRunner x = new GuestRunner();
        for (int k = 0; k < 256; k++) {
            CHECK.due("new byte " + k, x.byteOf(k), 0);
        }
    }

    // Promise 1: "as begun"
    private static void asBegun() {
        GuestRunner x = new GuestRunner();
        for (int k = -1; k <= 36; k++) {
            CHECK.due("new register " + k, x.register(k), k == 29 ? Guest.STACK : 0);
        }
        CHECK.due("new: output", x.output(0), BAD);
        CHECK.due("new: code", x.code(), 0);
        CHECK.due("new: the first input", x.input(0), 1);
        GuestRunner other = new GuestRunner();
        other.give(29, 5);
        other.word(Guest.NOP);
        CHECK.due("new: what is given counts, what is a word does not", other.run(1), 17);
        CHECK.due("new: given", other.register(29), 5);
    }

    // Promise 2: "A word more behind the text: how many."
    private static void wordsAreCounted() {
        GuestRunner x = new GuestRunner();
        int[] values = {0, -1, MIN, MAX, 1};
        for (int k = 0; k < values.length; k++) {
            CHECK.due("word " + values[k], x.word(values[k]), k + 1);
        }
        GuestRunner y = Guest.begun(Guest.NOP, Guest.NOP);
        y.run(2000);
        CHECK.due("begin and run do not count words anew", y.word(0), 3);
        GuestRunner z = Guest.begun(Guest.load(8, 1), Guest.load(8, 2), Guest.load(8, 3));
        for (int k = 1; k <= 3; k++) {
            z.run(1);
            CHECK.due("behind the text, word " + k, z.register(8), k);
        }
    }

    // Promise 2: "FULL when there are 64."
    private static void wordFull() {
        GuestRunner x = new GuestRunner();
        for (int k = 1; k <= 63; k++) {
            x.word(Guest.grow(8, 1));
        }
        CHECK.due("the 64th word", x.word(Guest.grow(8, 100)), 64);
        CHECK.due("the 65th word", x.word(Guest.BREAK), FULL);
        CHECK.due("the 66th word", x.word(-1), FULL);
        CHECK.due("begin() with 64 words", x.begin(), 64);
        CHECK.due("FULL behind begin()", x.word(Guest.BREAK), FULL);
        CHECK.due("64 words, fuel 64", x.run(64), 17);
        CHECK.due("the refused are not in the text", x.register(8), 163);
        CHECK.due("PC is behind the 64th", x.register(34), 64);
        CHECK.due("set() when full: the last", x.set(63, 0), 1);
        CHECK.due("set() when full: behind the last", x.set(64, 0), BAD);
    }

    // Promise 2: "(It counts for the next begin().)"
    private static void wordForNextBegin() {
        GuestRunner x = Guest.begun(Guest.NOP, Guest.NOP);
        CHECK.due("one of two", x.run(1), 0);
        x.word(Guest.grow(8, 1));
        CHECK.due("the third is not there", x.run(9), 17);
        CHECK.due("the third: PC", x.register(34), 2);
        CHECK.due("begin() with the third", x.begin(), 3);
        CHECK.due("the third is there", x.run(9), 17);
        CHECK.due("the third: done", x.register(8), 1);
    }

    // Promise 3: "Word k is another one: 1; BAD."
    private static void setBad() {
        GuestRunner x = new GuestRunner();
        for (int k : new int[] {0, -1, 1, 63, 64, MIN, MAX}) {
            CHECK.due("no words: set " + k, x.set(k, Guest.BREAK), BAD);
        }
        CHECK.due("set makes no word", x.begin(), 0);
        x.word(Guest.grow(8, 1));
        x.word(Guest.grow(8, 1));
        for (int k : new int[] {-1, 2, 3, 63, 64, MIN, MAX}) {
            CHECK.due("two words: set " + k, x.set(k, Guest.BREAK), BAD);
        }
        CHECK.due("refused: as many words", x.begin(), 2);
        CHECK.due("refused: the words as they were", x.run(9), 17);
        CHECK.due("refused: both done", x.register(8), 2);
        CHECK.due("the first", x.set(0, Guest.grow(8, 10)), 1);
        CHECK.due("the last", x.set(1, Guest.grow(8, 100)), 1);
        CHECK.due("as many words", x.begin(), 2);
        x.run(9);
        CHECK.due("both are others", x.register(8), 110);
        GuestRunner y = full();
        CHECK.due("full: set 63", y.set(63, Guest.grow(8, 2)), 1);
        CHECK.due("full: set 64", y.set(64, Guest.grow(8, 2)), BAD);
        y.begin();
        y.run(64);
        CHECK.due("full: the last is another", y.register(8), 65);
    }

    // Promise 3: "(Likewise.)"
    private static void setForNextBegin() {
        GuestRunner x = new GuestRunner();
        x.word(Guest.BREAK);
        CHECK.due("a word that no begin() took", x.set(0, Guest.grow(8, 1)), 1);
        CHECK.due("begin()", x.begin(), 1);
        CHECK.due("set while the program stands", x.set(0, Guest.grow(8, 2)), 1);
        CHECK.due("as taken", x.run(1), 17);
        CHECK.due("as taken: done", x.register(8), 1);
        x.begin();
        x.run(1);
        CHECK.due("as set", x.register(8), 2);
    }

    // Promise 4: "A byte (0 .. 255) behind the tape in: how many. BAD"
    private static void inputBad() {
        GuestRunner x = Guest.begun(Guest.SYSTEM, Guest.SYSTEM);
        for (int b : new int[] {-1, 256, 257, -255, MIN, MAX}) {
            CHECK.due("input " + b, x.input(b), BAD);
        }
        CHECK.due("the least byte", x.input(0), 1);
        CHECK.due("refused between", x.input(256), BAD);
        CHECK.due("the greatest byte", x.input(255), 2);
        x.give(2, 1);
        x.run(1);
        CHECK.due("read: the least", x.register(2), 0);
        x.give(2, 1);
        x.run(1);
        CHECK.due("read: the greatest", x.register(2), 255);
    }

    // Promise 4: "FULL when there are 64."
    private static void inputFull() {
        GuestRunner x = Guest.begun(Guest.text(64, Guest.SYSTEM));
        for (int k = 1; k <= 64; k++) {
            CHECK.due("input, the " + k, x.input(100 + k), k);
        }
        CHECK.due("input, the 65th", x.input(1), FULL);
        CHECK.due("no byte, and full: BAD stands first", x.input(-1), BAD);
        for (int k = 1; k <= 64; k++) {
            x.give(2, 1);
            x.run(1);
            CHECK.due("read, the " + k, x.register(2), 100 + k);
        }
        CHECK.due("read bytes make no room", x.input(1), FULL);
        x.begin();
        CHECK.due("begin() makes no room", x.input(1), FULL);
    }

    // Promise 5: "Byte k of DATA becomes v (0 .. 255) ..: 1; BAD."
    private static void dataBad() {
        GuestRunner x = new GuestRunner();
        CHECK.due("the first byte", x.data(0, 255), 1);
        CHECK.due("the last byte", x.data(255, 254), 1);
        CHECK.due("the least value", x.data(1, 0), 1);
        String before = Guest.state(x);
        for (int k : new int[] {-1, 256, 257, MIN, MAX, Guest.DATA, Guest.DATA + 1}) {
            CHECK.due("data " + k, x.data(k, 7), BAD);
            CHECK.due("data " + k + " of 256", x.data(k, 256), BAD);
        }
        for (int v : new int[] {-1, 256, 257, -128, MIN, MAX}) {
            CHECK.due("data of " + v, x.data(0, v), BAD);
            CHECK.due("data of " + v + ", the last", x.data(255, v), BAD);
        }
        unchanged("refused data", x, before);
        CHECK.due("byte 0", x.byteOf(0), 255);
        CHECK.due("byte 255", x.byteOf(255), 254);
        CHECK.due("the greatest over another", x.data(255, 255), 1);
        CHECK.due("byte 255 anew", x.byteOf(255), 255);
        CHECK.due("the least over another", x.data(0, 0), 1);
        CHECK.due("byte 0 anew", x.byteOf(0), 0);
    }

    // Promise 5: ".. at once"
    private static void dataAtOnce() {
        GuestRunner x = Guest.begun(Guest.immediate(36, 8, 9, 0), Guest.immediate(36, 8, 10, 255), Guest.BREAK);
        x.give(8, Guest.DATA);
        x.data(0, 11);
        x.run(1);
        CHECK.due("before the first step", x.register(9), 11);
        x.data(255, 22);
        x.run(1);
        CHECK.due("between two steps", x.register(10), 22);
        x.run(1);
        CHECK.due("when it had trapped", x.data(0, 33), 1);
        CHECK.due("when it had trapped: there", x.byteOf(0), 33);
        GuestRunner y = ended(0);
        CHECK.due("when it had ended", y.data(0, 44), 1);
        CHECK.due("when it had ended: there", y.byteOf(0), 44);
    }

    // Promise 6: "The program is taken as it is now .. How many words it has."
    private static void beginTakesTheProgram() {
        GuestRunner x = new GuestRunner();
        for (int k = 0; k <= 64; k++) {
            CHECK.due("begin() with " + k, x.begin(), k);
            x.word(Guest.grow(8, 1));
        }
        CHECK.due("begin() twice", x.begin(), 64);
        CHECK.due("all are there", x.run(2000), 17);
        CHECK.due("all are done", x.register(8), 64);
    }

    // Promise 6, of a program without words: PC 0 is outside of TEXT at once.
    private static void beginTakesNoWords() {
        GuestRunner x = new GuestRunner();
        CHECK.due("run before words", x.run(1), 17);
        CHECK.due("begin() without words", x.begin(), 0);
        CHECK.due("run without words", x.run(2000), 17);
        x.word(Guest.NOP);
        x.word(Guest.NOP);
        CHECK.due("words alone begin nothing", x.run(1), 17);
        CHECK.due("begin() with two", x.begin(), 2);
        CHECK.due("run with words", x.run(1), 0);
    }

    // Promise 6: "registers, HI and LO are 0, but 29, which is 268435712"
    private static void beginClearsRegisters() {
        GuestRunner x = Guest.begun(Guest.NOP);
        for (int k = 1; k <= 33; k++) {
            x.give(k, -k);
        }
        x.begin();
        for (int k = 0; k <= 33; k++) {
            CHECK.due("begun: register " + k, x.register(k), k == 29 ? 268435712 : 0);
        }
    }

    // Promise 6: "PC is 0 .. no steps were done"
    private static void beginClearsPcAndSteps() {
        GuestRunner x = Guest.begun(Guest.NOP, Guest.branch(1), Guest.NOP, Guest.NOP);
        x.run(3);
        CHECK.due("PC before", x.register(34), 3);
        CHECK.due("fuel before", x.register(35), 3);
        x.begin();
        CHECK.due("PC", x.register(34), 0);
        CHECK.due("fuel", x.register(35), 0);
        CHECK.due("from the first word on", x.run(1), 0);
        CHECK.due("fuel anew", x.register(35), 1);
    }

    // Promise 6: "the tape in begins anew, the tape out is empty"
    private static void beginTapes() {
        GuestRunner x = Guest.begun(Guest.text(8, Guest.SYSTEM));
        x.input(41);
        x.input(42);
        for (int round = 0; round < 2; round++) {
            x.give(2, 1);
            x.run(1);
            CHECK.due("the first byte in round " + round, x.register(2), 41);
            CHECK.due("nothing out yet in round " + round, x.output(0), BAD);
            x.give(2, 2);
            x.give(4, 7 + round);
            x.run(1);
            CHECK.due("out in round " + round, x.output(0), 7 + round);
            CHECK.due("one alone in round " + round, x.output(1), BAD);
            x.begin();
            CHECK.due("none behind begin()", x.output(0), BAD);
        }
        CHECK.due("the bytes are still there", x.input(43), 3);
    }

    // Promise 6 (as 7 and 12 look at it): what ended or trapped goes on again.
    private static void beginEndsWhatStopped() {
        GuestRunner x = ended(9);
        x.begin();
        CHECK.due("code behind begin()", x.code(), 0);
        CHECK.due("no end, but a trap by number 0", x.run(1), 20);
        x.begin();
        x.give(2, 2);
        CHECK.due("no trap, but PC behind the text", x.run(1), 17);
        x.begin();
        x.give(2, 3);
        CHECK.due("an end again", x.run(1), 1);
    }

    // Promise 6 names all that begin() changes: DATA is not among it.
    private static void beginKeepsTheRest() {
        GuestRunner x = Guest.begun(Guest.immediate(40, 8, 9, 255));
        x.data(0, 200);
        x.give(8, Guest.DATA);
        x.give(9, 201);
        x.run(1);
        x.begin();
        CHECK.due("DATA by data()", x.byteOf(0), 200);
        CHECK.due("DATA by the program", x.byteOf(255), 201);
    }

    // Promise 7: "Steps are done as long as there is fuel (1 .. 2000) for the next one: 0 when there is not"
    private static void runAsLongAsThereIsFuel() {
        int[] fuels = {1, 2, 3, 4, 1999, 2000};
        for (int fuel : fuels) {
            GuestRunner ones = Guest.begun(Guest.jump(2, 0), Guest.grow(8, 1));
            CHECK.due("steps of two, fuel " + fuel, ones.run(fuel), 0);
            CHECK.due("steps of two, used of " + fuel, ones.register(35), fuel / 2 * 2);
            CHECK.due("steps of two, done of " + fuel, ones.register(8), fuel / 2);
        }
        GuestRunner x = full();
        CHECK.due("63 of 64", x.run(63), 0);
        CHECK.due("63 of 64: done", x.register(8), 63);
        CHECK.due("the 64th", x.run(1), 17);
        CHECK.due("the 64th: done", x.register(8), 64);
    }

    // Promise 7: "1 when it ended"
    private static void runEnded() {
        GuestRunner x = Guest.begun(Guest.NOP, Guest.SYSTEM);
        x.give(2, 3);
        CHECK.due("fuel up to the end", x.run(1), 0);
        CHECK.due("not ended", x.code(), 0);
        CHECK.due("fuel for the end alone", x.run(1), 1);
        GuestRunner y = Guest.begun(Guest.NOP, Guest.SYSTEM);
        y.give(2, 3);
        CHECK.due("more than enough", y.run(2000), 1);
        CHECK.due("used", y.register(35), 2);
    }

    // Promise 7: "10 and the trap"
    private static void runTrapped() {
        GuestRunner x = Guest.begun(Guest.NOP, Guest.BREAK);
        CHECK.due("fuel up to the trap", x.run(1), 0);
        CHECK.due("fuel for the trap alone", x.run(1), 15);
        CHECK.due("used", x.register(35), 1);
        CHECK.due("PC", x.register(34), 1);
    }

    // Promise 7: "BAD: other fuel."
    private static void runBad() {
        GuestRunner x = Guest.begun(Guest.grow(8, 1), Guest.BREAK);
        String before = Guest.state(x);
        for (int fuel : new int[] {0, -1, -2000, 2001, MIN, MAX}) {
            CHECK.due("fuel " + fuel, x.run(fuel), BAD);
        }
        unchanged("other fuel", x, before);
        CHECK.due("fuel 1 behind them", x.run(1), 0);
        GuestRunner empty = new GuestRunner();
        CHECK.due("other fuel, PC outside of TEXT", empty.run(0), BAD);
        CHECK.due("fuel behind it, PC outside of TEXT", empty.run(1), 17);
        for (int fuel : new int[] {0, 2001}) {
            CHECK.due("other fuel when it had trapped", empty.run(fuel), BAD);
            CHECK.due("other fuel when it had ended", ended(1).run(fuel), BAD);
        }
    }

    // Promise 7: "When it had ended, or trapped: the same once more."
    private static void runTheSameOnceMore() {
        GuestRunner x = ended(6);
        x.give(2, 0);
        x.give(4, 7);
        String before = Guest.state(x);
        for (int fuel : new int[] {1, 2, 2000}) {
            CHECK.due("ended, once more", x.run(fuel), 1);
        }
        unchanged("an end once more", x, before);
        CHECK.due("the code of the end", x.code(), 6);
        GuestRunner y = Guest.begun(Guest.immediate(8, 8, 9, 1), Guest.grow(10, 1));
        y.give(8, MAX);
        CHECK.due("trapped", y.run(2), 14);
        y.give(8, 0);
        before = Guest.state(y);
        for (int fuel : new int[] {1, 2, 2000}) {
            CHECK.due("trapped, once more, though the cause is gone", y.run(fuel), 14);
        }
        unchanged("a trap once more", y, before);
        GuestRunner z = Guest.begun(Guest.NOP);
        CHECK.due("behind the text", z.run(1), 17);
        CHECK.due("behind the text, once more", z.run(1), 17);
        CHECK.due("behind the text, once more by 2000", z.run(2000), 17);
    }

    // Promise 8: "0 for others"
    private static void registerOthers() {
        GuestRunner x = Guest.begun(Guest.grow(8, 1), Guest.NOP);
        for (int k = 1; k <= 33; k++) {
            x.give(k, 1000 + k);
        }
        x.run(1);
        for (int k : new int[] {-1, -31, -32, 36, 37, 64, 63, 255, MIN, MAX, MIN + 34, MIN + 35}) {
            CHECK.due("register " + k, x.register(k), 0);
        }
        CHECK.due("register 0", x.register(0), 0);
        CHECK.due("register 1", x.register(1), 1001);
        CHECK.due("register 31", x.register(31), 1031);
        CHECK.due("HI", x.register(32), 1032);
        CHECK.due("LO", x.register(33), 1033);
        CHECK.due("PC", x.register(34), 1);
        CHECK.due("used", x.register(35), 1);
    }

    // Promise 8: "35: how much fuel was used since begin()"
    private static void registerUsedSinceBegin() {
        GuestRunner x = Guest.begun(Guest.NOP, Guest.branch(-2), Guest.NOP);
        CHECK.due("none yet", x.register(35), 0);
        x.run(2);
        CHECK.due("1, as 1 is too little for the second step", x.register(35), 1);
        x.run(1);
        CHECK.due("1 still", x.register(35), 1);
        x.run(2);
        CHECK.due("3", x.register(35), 3);
        x.run(2000);
        CHECK.due("over several runs", x.register(35), 3 + 2000 - 1);
        x.begin();
        CHECK.due("since begin()", x.register(35), 0);
    }

    // Promise 9: "Register k (1 .. 31; 32, 33) becomes v: 1; BAD."
    private static void giveBad() {
        GuestRunner x = Guest.begun(Guest.NOP, Guest.NOP);
        x.run(1);
        String before = Guest.state(x);
        for (int k : new int[] {0, -1, 34, 35, 36, 64, MIN, MAX, MIN + 1}) {
            CHECK.due("give " + k, x.give(k, 77), BAD);
        }
        unchanged("refused give", x, before);
        for (int k : new int[] {1, 31, 32, 33}) {
            CHECK.due("give " + k, x.give(k, 70 + k), 1);
            CHECK.due("given " + k, x.register(k), 70 + k);
        }
    }

    // Promise 9 names no bound for v.
    private static void giveAny() {
        GuestRunner x = new GuestRunner();
        for (int v : new int[] {MIN, -1, 0, MAX}) {
            for (int k = 1; k <= 33; k++) {
                CHECK.due("give " + k + " of " + v, x.give(k, v), 1);
            }
            for (int k = 1; k <= 33; k++) {
                CHECK.due("register " + k + " is " + v, x.register(k), v);
            }
        }
        GuestRunner y = ended(5);
        CHECK.due("give when it had ended", y.give(4, 8), 1);
        CHECK.due("given when it had ended", y.register(4), 8);
        CHECK.due("the code stays", y.code(), 5);
    }

    // Promise 10: "Byte k of DATA; BAD when there is none such."
    private static void byteOfBad() {
        GuestRunner x = Guest.begun(Guest.immediate(43, 8, 9, 0), Guest.immediate(43, 8, 9, 252));
        x.give(8, Guest.DATA);
        x.give(9, -1);
        x.run(2);
        CHECK.due("the first, without sign", x.byteOf(0), 255);
        CHECK.due("the last, without sign", x.byteOf(255), 255);
        for (int k : new int[] {-1, -255, 256, 257, MIN, MAX, Guest.DATA, MIN + 1}) {
            CHECK.due("byteOf " + k, x.byteOf(k), BAD);
        }
    }

    // Promise 11: "Byte k of the tape out; BAD when there is none such."
    private static void outputBad() {
        GuestRunner x = Guest.begun(Guest.SYSTEM, Guest.SYSTEM, Guest.branch(-3), Guest.NOP);
        int[] never = {-1, 256, 257, MIN, MAX, MIN + 1};
        for (int k : never) {
            CHECK.due("empty: output " + k, x.output(k), BAD);
        }
        CHECK.due("empty: output 0", x.output(0), BAD);
        x.give(2, 2);
        x.give(4, 0);
        x.run(1);
        CHECK.due("a byte 0 is one", x.output(0), 0);
        CHECK.due("one: output 1", x.output(1), BAD);
        x.give(4, -1);
        x.run(1);
        CHECK.due("two: output 1", x.output(1), 255);
        CHECK.due("two: output 2", x.output(2), BAD);
        x.run(2000);
        CHECK.due("full: output 255", x.output(255), 255);
        for (int k : never) {
            CHECK.due("full: output " + k, x.output(k), BAD);
        }
    }

    // Promise 12: "The CODE with which it ended, 0 else."
    private static void codeElse() {
        for (int code : new int[] {MIN, -1, 0, 1, 256, MAX}) {
            CHECK.due("code " + code, ended(code).code(), code);
        }
        CHECK.due("new", new GuestRunner().code(), 0);
        GuestRunner x = Guest.begun(Guest.NOP, Guest.BREAK);
        x.give(2, 3);
        x.give(4, 99);
        x.run(1);
        CHECK.due("on its way", x.code(), 0);
        x.run(1);
        CHECK.due("trapped", x.code(), 0);
        GuestRunner y = ended(98);
        y.run(0);
        CHECK.due("behind other fuel", y.code(), 98);
        y.begin();
        CHECK.due("behind begin()", y.code(), 0);
        y.give(4, 97);
        y.run(1);
        CHECK.due("trapped behind an end", y.code(), 0);
    }
}
