/** Promise 3: end. */
public final class Promise03EndTest {
    public static void main(String[] args) {
        Desk.about("The TAPE keeps its first n bytes, n 0 .. its length. Answers n.");
        Desk desk = new Desk();
        ScholarsPress x = desk.press;
        Desk.dueRange("end of an empty TAPE", 0, 0, Desk.ARGUMENT, n -> x.end(n));
        desk.tape("abcdef");
        Desk.due("all of it", 6, x.end(6));
        Desk.due("but one", 5, x.end(5));
        Desk.dueThrow("what was cut is gone", Desk.ARGUMENT, () -> x.end(6));
        Desk.dueThrow("below 0", Desk.ARGUMENT, () -> x.end(-1));
        Desk.dueThrow("MIN_VALUE", Desk.ARGUMENT, () -> x.end(Integer.MIN_VALUE));
        Desk.dueThrow("MAX_VALUE", Desk.ARGUMENT, () -> x.end(Integer.MAX_VALUE));
        Desk.due("a call that threw changes nothing", 5, desk.tapeLength());
        Desk.due("the first bytes are kept", 2, x.end(2));
        x.source();
        x.set(1);
        Desk.due("text", "ab", desk.texts());
        desk.tape("abcdef");
        Desk.due("nothing is kept", 0, x.end(0));
        Desk.due("source", 0, x.source());
        Desk.due("bytes", 0, x.count(2));
        desk.tape("xyz");
        x.end(1);
        x.feed(0x61626364, 0x65666768, 0x696a6b6c, 0x6d6e6f70, 0x71727374);
        x.end(4);
        x.source();
        x.set(1);
        Desk.due("feed comes behind what was kept", "xabc", desk.texts());
        Desk.close("Promise03EndTest");
    }
}
