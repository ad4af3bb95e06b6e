/** README.md's example, call by call, so that it stays true. */
public final class UseTest {
    private static final Check CHECK = new Check();

    public static void main(String[] args) {
        GuestRunner x = new GuestRunner();
        CHECK.due("register 2 = 3", x.word(0x24020003), 1);
        CHECK.due("register 4 = 55", x.word(0x24040037), 2);
        CHECK.due("SYSTEM", x.word(0x0000000C), 3);
        CHECK.due("begin()", x.begin(), 3);
        CHECK.due("run(2)", x.run(2), 0);
        CHECK.due("run(100)", x.run(100), 1);
        CHECK.due("code()", x.code(), 55);
        CHECK.due("register(35)", x.register(35), 3);
        CHECK.end();
    }
}
