/** Promise 3: end. */
public final class Promise03EndTest {
    public static void main(String[] args) {
        Desk.about("The TAPE keeps its first n bytes, n 0 .. its length. Answers n.");
        Desk desk = new Desk();
        ScholarsPress x = desk.press;
        Desk.dueRange("end of an empty TAPE", 0, 0, Desk.ARGUMENT, n -> x.end(n));
        desk.tape("abcdef");
        Desk.due("all of it", 6, x.end(6));
        Desk.due("but one", 5, x.end(5));
        Desk.dueThrow("what was cut is gone", Desk.ARGUMENT, () -> x.end(6));
        Desk.dueThrow("below 0", Desk.ARGUMENT, () -> x.end(-1));
        Desk.dueThrow("MIN_VALUE", Desk.ARGUMENT, () -> x.end(Integer.MIN_VALUE));
        Desk.dueThrow("MAX_VALUE", Desk.ARGUMENT, () -> x.end(Integer.MAX_VALUE));
        Desk.due("a call that threw changes nothing", 5, desk.tapeLength());
        Desk.due("the first bytes are kept", 2, x.end(2));
        x.source();
        x.set(1);
        Desk.due("text", "ab", desk.texts());
        desk.tape("abcdef");
        Desk.due("nothing is kept", 0, x.end(0));
        Desk.due("source", 0, x.source());
        Desk.due("bytes", 0, x.count(2));
        desk.tape("xyz");
        x.end(1);
        x.feed(0x61626364, 0x65666768, 0x696a6b6c, 0x6d6e6f70, 0x71727374);
        x.end(4);
        x.source();
        x.set(1);
        Desk.due("feed comes behind what was kept", "xabc", desk.texts());
        cutTexts();
        cutRows();
        Desk.close("Promise03EndTest");
    }

    /** Bytes behind n are not there, though they were on the TAPE and in a text before. */
    private static void cut(String kind, String text, int... places) {
        Desk desk = new Desk();
        desk.broken(kind, text, -1);
        desk.broken(kind, text, -1);
        for (int n = text.length(); n >= 0; n--) {
            desk.tape(text).press.end(n);
            boolean threw = false;
            try {
                long answer = kind.equals("font") ? desk.press.font() : kind.equals("hyphens") ? desk.press.hyphens()
                        : kind.equals("style") ? desk.press.style() : desk.press.source();
                Desk.due("not below 0", 1, answer >= 0 ? 1 : 0);
            } catch (UnsupportedOperationException e) {
                threw = true;
            }
            Desk.due(kind + " of the first " + n + " of " + text + " throws", places[n] >= 0 ? 1 : 0, threw ? 1 : 0);
            Desk.due(kind + " of the first " + n + " of " + text + " place", places[n], desk.press.place());
        }
    }

    private static void cutTexts() {
        cut("font", "kern\"a\"\"b\"-12;", -1, 0, 0, 0, 4, 4, 4, 7, 7, 7, 10, 11, 12, 13, -1);
        cut("style", "ab{lead:5000;}", -1, 1, 2, 3, 3, 3, 3, 7, 8, 8, 8, 8, 12, 13, -1);
        cut("hyphens", "ends 12 =ab-c a1b", -1, -1, -1, -1, 4, 5, 5, -1, -1, 8, -1, -1, 8, -1, -1, -1, -1, -1);
        cut("source", "<a i=\"x\" >&lt;<!e \"q\">&e;<!----><b/></a>", -1, 1, 2, 3, 4, 5, 5, 5, 8, 9, 10, 11, 11, 13, 14, 15, 16, 17, 18,
                18, 18, 21, 22, 23, 24, 25, 26, 27, 28, 29, 30, 31, 32, 33, 34, 35, 36, 37, 38, 39, -1);
    }

    private static void cutRows() {
        Desk desk = new Desk("page{width:10000;}", "<a id=\"p\">aa bb cc</a>").set(1);
        desk.tape("12").press.end(1);
        Desk.due("judge of a NUMBER that was cut", desk.judge(0, "1"), desk.tape("12").press.end(1) + desk.press.judge(0) - 1);
        desk.tape("pq").press.end(1);
        Desk.due("where of an ID that was cut", 0, desk.press.where(0));
    }
}
