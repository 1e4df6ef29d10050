/** Promise 14: spot. */
public final class Promise14SpotTest {
    private static Desk desk;

    public static void main(String[] args) {
        words();
        parted();
        rows();
        noSuch();
        Desk.close("Promise14SpotTest");
    }

    private static void words() {
        Desk.about("Where WORD w of line l begins, from the column's left.");
        desk = new Desk("page{width:40000;}b{show:block;left:1000;indent:500;}", "<b>aa b c</b><b>dd</b>").set(1);
        Desk.due("WORDS", "1500 16500 26500", desk.spots(0));
        Desk.due("one WORD", "1500", desk.spots(1));
        desk.style("page{width:40000;}b{show:block;align:right;}");
        desk.press.set(1);
        Desk.due("what it is moved with it", "10000 25000 35000", desk.spots(0));
        desk = new Desk("page{width:1000000;}b{show:block;left:500000;}", "<b>a</b>").set(1);
        Desk.due("far", "500000", desk.spots(0));
        desk = new Desk("page{width:1000000;}b{show:block;size:100000;left:500000;align:left;}", "<b>" + "aaaaaaaaaa ".repeat(2) + "</b>");
        desk.font("width\"a\"5000;width\" \"5000;");
        desk.press.set(1);
        Desk.due("a line that is TOO LONG", "500000 6000000", desk.spots(0));
    }

    private static void parted() {
        Desk.about("(what is left of a parted one counts)");
        desk = new Desk("page{width:25000;}b{show:block;tolerance:10000;}", "<b>aaa-bb c</b>").set(1);
        Desk.due("text", "aaa-|bb c", desk.texts());
        Desk.due("ahead of the DASH", "0", desk.spots(0));
        Desk.due("behind the DASH", "0 15000", desk.spots(1));
        desk = new Desk("page{width:20000;}b{show:block;hyphens:yes;tolerance:10000;}", "<b>aaabb c</b>");
        desk.hyphens("ends 11 a1b");
        desk.press.set(1);
        Desk.due("text", "aaa-|bb c", desk.texts());
        Desk.due("ahead of the HYPHEN", "0", desk.spots(0));
        Desk.due("behind the HYPHEN", "0 15000", desk.spots(1));
        desk = new Desk("", "a-b c--d e").set(1);
        Desk.due("one that is not parted is one", "0 20000 45000", desk.spots(0));
    }

    private static void rows() {
        Desk.about("A row has none.");
        desk = new Desk(Desk.SHOWS, "<t><r><c>aa</c></r></t>x").set(1);
        Desk.dueThrow("a row", Desk.INDEX, () -> desk.press.spot(0, 0));
        Desk.dueThrow("a row", Desk.INDEX, () -> desk.press.spot(0, -1));
        Desk.due("the line behind it", "0", desk.spots(1));
    }

    private static void noSuch() {
        Desk.about("Nothing is SET: IllegalStateException; no such line: IndexOutOfBoundsException");
        desk = new Desk("", "aa bb");
        Desk.dueThrow("spot", Desk.STATE, () -> desk.press.spot(0, 0));
        Desk.dueThrow("spot", Desk.STATE, () -> desk.press.spot(-1, -1));
        desk.press.set(1);
        Desk.dueRange("line", 0, 0, Desk.INDEX, l -> desk.press.spot(l, 0));
        Desk.dueRange("WORD", 0, 1, Desk.INDEX, w -> desk.press.spot(0, w));
        desk.source("");
        desk.press.set(1);
        Desk.dueThrow("no lines", Desk.INDEX, () -> desk.press.spot(0, 0));
    }
}
