/** Promise 2: feed. A full TAPE takes more feeds than an object has promised calls. */
public final class Promise02FeedTest {
    public static void main(String[] args) {
        bytes();
        lengths();
        tooMuch();
        anyInts();
        Desk.close("Promise02FeedTest");
    }

    private static void bytes() {
        Desk.about("The 20 bytes of five ints, the highest of each first, come to the TAPE");
        Desk desk = new Desk();
        desk.press.feed(0x61626364, 0x65666768, 0x696a6b6c, 0x6d6e6f70, 0x71727374);
        desk.press.source();
        desk.press.set(1);
        Desk.due("text", "abcdefghijklmnopqrst", desk.texts());
        desk.press.feed(0x41424344, 0x45464748, 0x494a4b4c, 0x4d4e4f50, 0x51525354);
        desk.press.feed(0x61626364, 0x65666768, 0x696a6b6c, 0x6d6e6f70, 0x71727374);
        desk.press.source();
        desk.press.set(1);
        Desk.due("behind what is there", "ABCDEFGHIJKLMNOPQRSTabcdefghijklmnopqrst", desk.texts());
    }

    private static void lengths() {
        Desk.about("Answers its length.");
        ScholarsPress x = new ScholarsPress();
        Desk.due("first", 20, x.feed(0, 0, 0, 0, 0));
        Desk.due("second", 40, x.feed(-1, -1, -1, -1, -1));
        x.end(1);
        Desk.due("behind end", 21, x.feed(0, 0, 0, 0, 0));
        x.end(0);
        Desk.due("behind end 0", 20, x.feed(0, 0, 0, 0, 0));
        Desk.dueThrow("source", Desk.BROKEN, x::source);
        Desk.due("behind a call that read it", 20, x.feed(0, 0, 0, 0, 0));
    }

    private static void tooMuch() {
        Desk.about("it would have more than 16384: IndexOutOfBoundsException.");
        Desk desk = new Desk();
        ScholarsPress x = desk.press;
        desk.tape("a".repeat(16364));
        Desk.due("to 16384", 16384, x.feed(0x62626262, 0x62626262, 0x62626262, 0x62626262, 0x62626262));
        Desk.dueThrow("of 16384", Desk.INDEX, () -> x.feed(0, 0, 0, 0, 0));
        x.end(16383);
        Desk.dueThrow("of 16383", Desk.INDEX, () -> x.feed(0, 0, 0, 0, 0));
        x.end(16365);
        Desk.dueThrow("of 16365", Desk.INDEX, () -> x.feed(0, 0, 0, 0, 0));
        Desk.due("its length stays", 16365, x.end(16365));
        Desk.due("and its bytes", 0, x.source());
        Desk.due("place", -1, x.place());
        desk.tape("a".repeat(16380));
        Desk.dueThrow("of 16380", Desk.INDEX, () -> x.feed(0, 0, 0, 0, 0));
        x.end(16364);
        Desk.due("once more", 16384, x.feed(0, 0, 0, 0, 0));
    }

    private static void anyInts() {
        Desk.about("The 20 bytes of five ints (of any five)");
        Desk desk = new Desk();
        desk.press.feed(0x3c212d2d, Integer.MIN_VALUE, Integer.MAX_VALUE, -1, 0x2d2d3e61);
        Desk.due("source", 0, desk.press.source());
        Desk.due("bytes", 20, desk.press.count(2));
        desk.press.set(1);
        Desk.due("text", "a", desk.texts());
        desk.press.feed(0x00800001, 0, 0, 0, 0);
        Desk.dueThrow("where", Desk.NONE, () -> desk.press.where(0));
        desk.press.feed(0x207fff00, 0, 0, 0, 0);
        Desk.dueThrow("source", Desk.BROKEN, desk.press::source);
        Desk.due("byte 127 is the second", 1, desk.press.place());
    }
}
