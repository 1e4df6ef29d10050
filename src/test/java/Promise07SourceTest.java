/** Promise 7: source. */
public final class Promise07SourceTest {
    private static Desk desk;

    public static void main(String[] args) {
        theTape();
        nothingOfTheOneBefore();
        theOneBeforeStays();
        answers();
        Desk.close("Promise07SourceTest");
    }

    private static void theTape() {
        Desk.about("The TAPE is the SOURCE.");
        desk = new Desk("b{show:block;}", "<b id=\"p\">x</b>");
        desk.press.set(1);
        desk.source("<!q \"\">y<b/><b id=\"r\"/>");
        Desk.due("its ELEMENTS", 2, desk.press.count(0));
        Desk.due("its ENTITIES", 1, desk.press.count(1));
        Desk.due("its bytes", 23, desk.press.count(2));
        Desk.due("what is SET stays", "x", desk.texts());
        Desk.due("its IDS, too", 0, desk.where("p", 0));
        Desk.dueThrow("not the new ones", Desk.NONE, () -> desk.where("r", 0));
        desk.press.set(1);
        Desk.due("SET anew", "y", desk.texts());
        Desk.due("the new IDS", 1, desk.where("r", 0));
        desk.source("");
        Desk.due("an empty one", 0, desk.press.count(2));
        Desk.due("is a SOURCE", 1, desk.press.set(1));
        Desk.due("of no lines", 0, desk.press.count(5));
    }

    private static void nothingOfTheOneBefore() {
        Desk.about("The TAPE is the SOURCE (and nothing of one before is)");
        desk = new Desk("*:empty{depth:3;}", "");
        for (int again = 0; again < 3; again++) {
            desk.source("<a>x<b/></a><c>y</c>");
            Desk.due("those that are empty", "0 3 0", desk.elements(39));
            desk.source("<a/><b/><c/>");
            desk.source("<a/><b/><c/>");
            Desk.due("all are empty", "3 3 3", desk.elements(39));
        }
        desk.source("<a p=\"1\" q=\"\"/>".repeat(2) + "<b id=\"z\"/>");
        desk.source("<a/>");
        desk.source("<a/>");
        Desk.due("FIELDS", 0, desk.press.element(0, 3));
        desk.press.set(1);
        Desk.dueThrow("an ID of one before", Desk.NONE, () -> desk.where("z", 0));
    }

    private static void theOneBeforeStays() {
        Desk.about("BROKEN: UnsupportedOperationException, PLACE is told, the one before stays");
        desk = new Desk();
        desk.broken("source", "<a>", 3);
        Desk.dueThrow("still no SOURCE", Desk.STATE, () -> desk.press.set(1));
        Desk.due("bytes", 0, desk.press.count(2));
        desk.source("<a>x</a>");
        desk.broken("source", "<!q \"\"><b/><c/>\t", 15);
        Desk.due("ELEMENTS", 1, desk.press.count(0));
        Desk.due("ENTITIES", 0, desk.press.count(1));
        Desk.due("bytes", 8, desk.press.count(2));
        desk.press.set(1);
        Desk.due("text", "x", desk.texts());
        Desk.due("a right one", 2, desk.source("<a/><a/>"));
        Desk.due("place", -1, desk.press.place());
    }

    private static void answers() {
        Desk.about("Answers how many ELEMENTS.");
        desk = new Desk();
        Desk.due("empty", 0, desk.source(""));
        Desk.due("text", 0, desk.source("x"));
        Desk.due("one", 1, desk.source("<a/>"));
        Desk.due("in one another", 3, desk.source("<a><b><c/></b></a>"));
        Desk.due("a comment has none", 1, desk.source("<!--<a/>--><b/>"));
        Desk.due("500", 500, desk.source("<a/>".repeat(500)));
        Desk.due("they do not add up", 1, desk.source("<a/>"));
    }
}
