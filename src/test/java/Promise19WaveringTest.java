/** Promise 19: wavering. */
public final class Promise19WaveringTest {
    private static Desk desk;

    public static void main(String[] args) {
        byNumbers();
        whatWavers();
        noSuch();
        Desk.close("Promise19WaveringTest");
    }

    private static void wavering(String style, String source, String due) {
        desk = new Desk("page{lines:all;}" + Desk.SHOWS + "b{count:yes;}d{depth:1;}" + style, source);
        desk.press.set(1);
        StringBuilder got = new StringBuilder();
        for (int k = 0; k < desk.press.count(10); k++) {
            got.append(k > 0 ? " " : "").append(desk.press.wavering(k));
        }
        Desk.due("ELEMENTS that waver in " + source, due, got.toString());
        int count = desk.press.count(10);
        Desk.dueThrow("one behind them", Desk.INDEX, () -> desk.press.wavering(count));
    }

    private static void byNumbers() {
        Desk.about("The k-th ELEMENT, from 0, by numbers, that wavers");
        wavering("", "<n of=\"p\"/><k/><e to=\"p\" as=\"page\"/><d/><m>x</m><b id=\"p\">y</b><x/><e to=\"p\" as=\"line\"/>", "0 1 2 6 7");
    }

    private static void whatWavers() {
        Desk.about("a ref, contents, index or NOTE whose text in the last ROUND had pages or LINES that are not those found");
        wavering("", "x", "");
        wavering("", "<b id=\"p\">x</b><e to=\"p\" as=\"page\"/>", "1");
        wavering("", "<b id=\"p\">x</b><e to=\"p\" as=\"line\"/>", "1");
        wavering("b{count:no;}", "<b id=\"p\">x</b><e to=\"p\" as=\"line\"/>", "");
        wavering("", "<b id=\"p\">x</b><e to=\"p\" as=\"title\"/><e to=\"p\" as=\"side\"/><e to=\"p\" as=\"number\"/><e to=\"q\" as=\"page\"/>", "");
        wavering("", "<b id=\"p\">x</b><h><e to=\"p\" as=\"page\"/></h>", "");
        wavering("", "<b id=\"p\">x</b><k><e to=\"p\" as=\"page\"/></k>", "");
        wavering("", "<b id=\"p\">x</b><n><e to=\"p\" as=\"page\"/></n>", "2");
        wavering("", "<b id=\"p\">x</b><t><r><c><e to=\"p\" as=\"page\"/></c></r></t>", "4");
        wavering("", "<k/>x", "");
        wavering("", "<k/><d>x</d>", "0");
        wavering("", "<k/><d>x</d><k/>", "0 2");
        wavering("", "<n><k/></n><d>x</d>", "");
        wavering("", "<x/>x<m/>", "");
        wavering("", "<x/><m>x</m>", "0");
        wavering("", "<b id=\"p\">x</b><n of=\"p\"/>", "1");
        wavering("", "<b id=\"p\">x</b><n of=\"q\"/><n/>", "");
        wavering("b{count:no;}", "<b id=\"p\">x</b><n of=\"p\"/>", "");
        wavering("", "<i id=\"p\"/><e to=\"p\" as=\"line\"/>x", "");
    }

    private static void noSuch() {
        Desk.about("Nothing is SET: IllegalStateException; no such: IndexOutOfBoundsException");
        desk = new Desk(Desk.SHOWS, "<b id=\"p\">x</b><e to=\"p\" as=\"page\"/><e to=\"p\" as=\"page\"/>");
        Desk.dueThrow("nothing SET", Desk.STATE, () -> desk.press.wavering(0));
        Desk.dueThrow("nothing SET", Desk.STATE, () -> desk.press.wavering(-1));
        desk.press.set(1);
        Desk.dueRange("wavering", 0, 1, Desk.INDEX, k -> desk.press.wavering(k));
        desk.source("");
        Desk.due("of what is SET", 2, desk.press.wavering(1));
        desk.press.set(1);
        Desk.dueThrow("none", Desk.INDEX, () -> desk.press.wavering(0));
    }
}
