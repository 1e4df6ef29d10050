/** Promise 13: line. */
public final class Promise13LineTest {
    private static Desk desk;

    public static void main(String[] args) {
        whats();
        rows();
        moved();
        noSuchLine();
        nothingIsSet();
        Desk.close("Promise13LineTest");
    }

    private static void whats() {
        Desk.about("Line l of FLOW as SET, what 0: its column (all from 0), 1: its top, from the column's, 2: its PARAGRAPH, 3: its NUMBER, 0 without, 4: RATIO, 5: the BREAK at which it ends, 6: where it begins, from the column's left");
        desk = new Desk("page{width:30000;height:36000;columns:2;lines:all;}" + Desk.SHOWS + "b{first:1;last:1;count:yes;left:100;indent:50;tolerance:10000;}f{height:1000;}",
                "<b>aaaa aaaa aaa bb cc</b><b>dd</b><f/>ee");
        desk.press.set(1);
        // aaaa | aaaa | aaa bb, of 29900: 100 too much | cc | dd | ee with the float
        Desk.due("columns", "0 0 0 1 1 1", desk.lines(0));
        Desk.due("tops", "0 12000 24000 0 12000 24000", desk.lines(1));
        Desk.due("PARAGRAPHS", "0 0 0 0 1 2", desk.lines(2));
        Desk.due("NUMBERS", "1 2 3 4 5 0", desk.lines(3));
        Desk.due("RATIOS", "100000 100000 -61 0 0 0", desk.lines(4));
        Desk.due("BREAKS", "1 2 4 5 1 1", desk.lines(5));
        Desk.due("where they begin", "150 100 100 100 150 0", desk.lines(6));
        Desk.due("the float stands behind them", "2 \n0 =\n", desk.page(2));
    }

    private static void rows() {
        Desk.about("2: (of a row -1), 4, 5: (of a row both 0), 6: (of a row the table's)");
        desk = new Desk("page{width:30000;lines:all;}" + Desk.SHOWS + "*{count:yes;}b{left:10;}t{left:7;indent:5;}r{left:5;}c{align:right;left:3;indent:9;}",
                "<b>x<t><r><c>aa bb</c><c>cc</c></r></t>y</b>");
        desk.press.set(1);
        // the first cell has two lines
        Desk.due("tops", "0 12000 36000", desk.lines(1));
        Desk.due("PARAGRAPHS", "0 -1 3", desk.lines(2));
        Desk.due("NUMBERS", "1 0 2", desk.lines(3));
        Desk.due("RATIOS", "0 0 0", desk.lines(4));
        Desk.due("BREAKS", "1 0 1", desk.lines(5));
        Desk.due("where they begin", "10 17 10", desk.lines(6));
    }

    private static void moved() {
        Desk.about("6: where it begins (what it is moved with it)");
        desk = new Desk("page{width:30000;}b{show:block;left:5000;align:right;}", "<b>aa</b>").set(1);
        Desk.due("right", 20000, desk.press.line(0, 6));
        desk.style("page{width:30000;}b{show:block;left:5000;align:middle;}");
        desk.press.set(1);
        Desk.due("middle", 5000 + 7500, desk.press.line(0, 6));
        desk.style("page{width:30000;columns:3;height:12000;gap:777;}b{show:block;left:5000;}");
        desk.source("<b>aa</b><b>bb</b><b>cc</b>");
        desk.press.set(1);
        Desk.due("from the column's left, not the page's", "5000 5000 5000", desk.lines(6));
    }

    private static void noSuchLine() {
        Desk.about("no such line: IndexOutOfBoundsException (so below)");
        desk = new Desk(Desk.SHOWS, "<b>aa</b><b>bb<n>xx</n></b>").set(1);
        for (int what = 0; what <= 6; what++) {
            int each = what;
            Desk.dueRange("line", 0, 1, Desk.INDEX, l -> desk.press.line(l, each));
        }
        Desk.dueRange("what", 0, 6, Desk.ARGUMENT, what -> desk.press.line(0, what));
        Desk.dueThrow("what of no line", Desk.ARGUMENT, () -> desk.press.line(2, 7));
        Desk.dueThrow("what of no line", Desk.ARGUMENT, () -> desk.press.line(-1, -1));
        desk.source("");
        desk.press.set(1);
        Desk.dueRange("line without lines", 0, -1, Desk.INDEX, l -> desk.press.line(l, 0));
    }

    private static void nothingIsSet() {
        Desk.about("Nothing is SET: IllegalStateException");
        desk = new Desk("", "a");
        Desk.dueThrow("line", Desk.STATE, () -> desk.press.line(0, 0));
        Desk.dueThrow("line -1", Desk.STATE, () -> desk.press.line(-1, 6));
        Desk.dueThrow("what 7", Desk.ARGUMENT, () -> desk.press.line(0, 7));
        Desk.dueThrow("what -1", Desk.ARGUMENT, () -> desk.press.line(0, -1));
        desk.press.set(1);
        desk.source("b");
        Desk.due("as SET", 0, desk.press.line(0, 0));
    }
}
