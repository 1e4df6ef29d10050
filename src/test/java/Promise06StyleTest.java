/** Promise 6: style. */
public final class Promise06StyleTest {
    private static Desk desk;

    public static void main(String[] args) {
        theTape();
        theOneBeforeStays();
        answers();
        Desk.close("Promise06StyleTest");
    }

    private static void theTape() {
        Desk.about("The TAPE is the STYLE.");
        desk = new Desk("", "<a>x</a>y");
        desk.press.set(1);
        Desk.due("none yet", 1, desk.press.count(6));
        desk.style("a{show:block;depth:3;}page{width:10000;}");
        Desk.due("properties are told by it", 3, desk.press.element(0, 39));
        Desk.due("what is SET stays", 1, desk.press.count(6));
        Desk.due("its width, too", 300000, desk.press.paragraph(0, 4));
        desk.press.set(1);
        Desk.due("SET anew", 2, desk.press.count(6));
        Desk.due("its width, too", 10000, desk.press.paragraph(0, 4));
        desk.style("a{lead:5000;}");
        Desk.due("nothing of the one before", 0, desk.press.element(0, 39));
        desk.press.set(1);
        Desk.due("page begins anew, too", 300000, desk.press.paragraph(0, 4));
        desk.style("");
        Desk.due("an empty one", 12000, desk.press.element(0, 22));
    }

    private static void theOneBeforeStays() {
        Desk.about("BROKEN: UnsupportedOperationException, PLACE is told, the one before stays");
        desk = new Desk("a{depth:3;step:p;}page{width:20000;}", "<a>x</a>");
        desk.broken("style", "page{width:10000;}a{depth:4;step:q;}b", 37);
        Desk.due("it stays", 3, desk.press.element(0, 39));
        desk.press.set(1);
        Desk.due("page stays", 20000, desk.press.paragraph(0, 4));
        desk.broken("style", "a{depth:4;}a{depth:10;}", 19);
        Desk.due("it stays", 3, desk.press.element(0, 39));
        Desk.due("a right one", 1, desk.style("a{depth:5;}"));
        Desk.due("place", -1, desk.press.place());
        Desk.due("told by it", 5, desk.press.element(0, 39));
    }

    private static void answers() {
        Desk.about("Answers how many SELECTORS.");
        desk = new Desk();
        Desk.due("empty", 0, desk.style(""));
        Desk.due("page is none", 0, desk.style("page{}page{gap:0;}"));
        Desk.due("one", 1, desk.style("a{}"));
        Desk.due("of several STEPS", 1, desk.style("a>b/c+d{}"));
        Desk.due("lists", 4, desk.style("a,b{}c{}a{}"));
        Desk.due("120", 120, desk.style("a,b,c{}".repeat(40)));
        Desk.due("they do not add up", 1, desk.style("a{}"));
    }
}
