/** Promise 21: word. */
public final class Promise21WordTest {
    public static void main(String[] args) {
        bytes();
        noSuch();
        itStays();
        Desk.close("Promise21WordTest");
    }

    private static void bytes() {
        Desk.about("8 bytes of OUT from i on, the highest first, zeros behind its end");
        Desk desk = new Desk("", "abcdef").set(1);
        String page = "1 \n0 0 abcdef\n";
        Desk.due("bytes", page.length(), desk.press.print(1));
        for (int i = 0; i < page.length(); i++) {
            long due = 0;
            for (int k = i; k < i + 8; k++) {
                due = due << 8 | (k < page.length() ? page.charAt(k) : 0);
            }
            Desk.due("word " + i, due, desk.press.word(i));
        }
        desk.source("~~~~~~~~");
        desk.press.set(1);
        desk.press.print(1);
        Desk.due("the greatest bytes", 0x7e7e7e7e7e7e7e7eL, desk.press.word(7));
        desk.source("x");
        desk.press.set(1);
        Desk.due("a shorter one", 9, desk.press.print(1));
        Desk.due("nothing of the longer one", 0x780a000000000000L, desk.press.word(7));
    }

    private static void noSuch() {
        Desk.about("i is none of its bytes: IndexOutOfBoundsException.");
        Desk desk = new Desk("", "a");
        Desk.dueThrow("nothing was printed", Desk.INDEX, () -> desk.press.word(0));
        desk.press.set(1);
        Desk.dueThrow("nothing was printed", Desk.INDEX, () -> desk.press.word(0));
        Desk.dueThrow("nothing was printed", Desk.INDEX, () -> desk.press.word(-1));
        Desk.due("bytes", 9, desk.press.print(1));
        Desk.dueRange("word", 0, 8, Desk.INDEX, i -> desk.press.word(i));
        Desk.dueThrow("MAX_VALUE less 7", Desk.INDEX, () -> desk.press.word(Integer.MAX_VALUE - 7));
    }

    private static void itStays() {
        Desk.about("8 bytes of OUT (it stays until the next page)");
        Desk desk = new Desk("", "a").set(1);
        desk.press.print(1);
        long due = 0x31200a3020302061L;
        desk.source("b");
        Desk.due("another SOURCE", due, desk.press.word(0));
        desk.press.set(1);
        Desk.due("SET anew", due, desk.press.word(0));
        Desk.dueThrow("no page", Desk.INDEX, () -> desk.press.print(2));
        Desk.due("a print that threw", due, desk.press.word(0));
        desk.press.print(1);
        Desk.due("the next page", due + 1, desk.press.word(0));
    }
}
