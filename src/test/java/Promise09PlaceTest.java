/** Promise 9: place. */
public final class Promise09PlaceTest {
    private static Desk desk;

    public static void main(String[] args) {
        latest();
        foundNone();
        somethingElse();
        notRead();
        Desk.close("Promise09PlaceTest");
    }

    private static void place(int due) {
        Desk.due("place", due, desk.press.place());
    }

    private static void latest() {
        Desk.about("PLACE of the latest BROKEN text");
        desk = new Desk();
        place(-1);
        desk.broken("font", "?", 0);
        desk.broken("hyphens", "a ?", 2);
        desk.broken("style", "a{", 2);
        desk.broken("source", "abc<", 4);
        place(4);
        place(4);
        desk.source("a b");
        desk.press.set(1);
        Desk.dueThrow("judge", Desk.BROKEN, () -> desk.judge(0, "   2"));
        place(3);
        Desk.dueThrow("change", Desk.BROKEN, () -> desk.change(1, 1, "&"));
        place(2);
        desk.broken("font", "", -1);
    }

    private static void foundNone() {
        Desk.about("-1 if the latest call of font, hyphens, style, source, change or judge that read the TAPE found none, or before");
        desk = new Desk();
        desk.broken("font", "?", 0);
        desk.font("");
        place(-1);
        desk.broken("font", "?", 0);
        desk.hyphens("");
        place(-1);
        desk.broken("font", "?", 0);
        desk.style("");
        place(-1);
        desk.broken("font", "?", 0);
        desk.source("a b");
        place(-1);
        desk.broken("font", "?", 0);
        desk.change(0, 0, "");
        place(-1);
        desk.press.set(1);
        desk.broken("font", "?", 0);
        desk.judge(0, "1");
        place(-1);
    }

    private static void somethingElse() {
        Desk.about("(also if it threw something else)");
        desk = new Desk("", "a".repeat(16384));
        desk.press.set(1);
        desk.broken("font", "?", 0);
        Desk.dueThrow("judge of no PARAGRAPH", Desk.INDEX, () -> desk.judge(1, "x"));
        place(-1);
        desk.broken("font", "?", 0);
        Desk.dueThrow("change that is too long", Desk.INDEX, () -> desk.change(0, 0, "<"));
        place(-1);
    }

    private static void notRead() {
        Desk.about("the latest call of font, hyphens, style, source, change or judge that read the TAPE (others leave it)");
        desk = new Desk();
        desk.broken("style", "   ?", 3);
        Desk.dueThrow("change, no SOURCE", Desk.STATE, () -> desk.change(0, 0, "x"));
        place(3);
        Desk.dueThrow("change, a number out of range", Desk.ARGUMENT, () -> desk.change(-1, 0, "x"));
        place(3);
        Desk.dueThrow("judge, nothing SET", Desk.STATE, () -> desk.judge(0, "1"));
        place(3);
        desk = new Desk(Desk.SHOWS, "<b id=\"p\">a<n/></b><f/>");
        desk.press.set(1);
        desk.broken("style", "   ?", 3);
        Desk.dueThrow("where", Desk.NONE, () -> desk.where("q", 0));
        place(3);
        desk.where("p", 0);
        place(3);
        desk.press.set(1);
        Desk.dueThrow("set", Desk.ARGUMENT, () -> desk.press.set(0));
        desk.press.element(0, 0);
        desk.press.count(0);
        desk.press.line(0, 0);
        desk.press.spot(0, 0);
        desk.press.paragraph(0, 0);
        desk.press.note(0, 0);
        Desk.dueThrow("wavering", Desk.INDEX, () -> desk.press.wavering(0));
        desk.press.print(1);
        desk.press.word(0);
        desk.press.end(0);
        desk.press.feed(0, 0, 0, 0, 0);
        place(3);
    }
}
