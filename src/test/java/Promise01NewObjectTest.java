/** Promise 1: a new object. */
public final class Promise01NewObjectTest {
    public static void main(String[] args) {
        noSource();
        emptyTexts();
        nothingIsSet();
        emptyTape();
        eachByItself();
        Desk.close("Promise01NewObjectTest");
    }

    private static void noSource() {
        Desk.about("No SOURCE");
        ScholarsPress x = new ScholarsPress();
        for (int what = 0; what <= 2; what++) {
            Desk.due("count " + what, 0, x.count(what));
        }
        Desk.dueThrow("set", Desk.STATE, () -> x.set(1));
        Desk.dueThrow("set", Desk.STATE, () -> x.set(9));
        Desk.dueThrow("element", Desk.STATE, () -> x.element(0, 0));
        Desk.dueThrow("change", Desk.STATE, () -> x.change(0, 0));
        Desk.due("place", -1, x.place());
    }

    private static void emptyTexts() {
        Desk.about("STYLE, FONT, HYPHENS are empty texts");
        Desk desk = new Desk();
        desk.source("<a>ab x</a>");
        int[] due = {0, 10000, 12000, 0, 0, 0, 0, 0, 0, 0, 200, 2, 2, 0, 0, 0, 0, 0, 0, 0, 0, 0};
        for (int q = 0; q < due.length; q++) {
            Desk.due("property " + q, due[q], desk.press.element(0, 20 + q));
        }
        desk.press.set(1);
        Desk.due("width of the page", 300000, desk.press.paragraph(0, 4));
        Desk.due("widths of bytes", 15000, desk.press.spot(0, 1));
        desk.style("b{show:block;hyphens:yes;}");
        desk.source("<b>" + "ab".repeat(10) + "</b>");
        desk.press.set(1);
        Desk.due("no HYPHENS", 1, desk.press.paragraph(0, 2));
    }

    private static void nothingIsSet() {
        Desk.about("nothing is SET");
        ScholarsPress x = new ScholarsPress();
        for (int what = 3; what <= 11; what++) {
            Desk.due("count " + what, 0, x.count(what));
        }
        Desk.dueThrow("line", Desk.STATE, () -> x.line(0, 0));
        Desk.dueThrow("spot", Desk.STATE, () -> x.spot(0, 0));
        Desk.dueThrow("paragraph", Desk.STATE, () -> x.paragraph(0, 0));
        Desk.dueThrow("judge", Desk.STATE, () -> x.judge(0));
        Desk.dueThrow("where", Desk.STATE, () -> x.where(0));
        Desk.dueThrow("note", Desk.STATE, () -> x.note(0, 0));
        Desk.dueThrow("note", Desk.STATE, () -> x.note(0, 10));
        Desk.dueThrow("wavering", Desk.STATE, () -> x.wavering(0));
        Desk.dueThrow("print", Desk.STATE, () -> x.print(1));
        Desk.dueThrow("word", Desk.INDEX, () -> x.word(0));
    }

    private static void emptyTape() {
        Desk.about("ScholarsPress(): its TAPE is empty");
        ScholarsPress x = new ScholarsPress();
        Desk.due("end", 0, x.end(0));
        Desk.dueThrow("end 1", Desk.ARGUMENT, () -> x.end(1));
        Desk.due("font", 0, x.font());
        Desk.due("hyphens", 0, x.hyphens());
        Desk.due("style", 0, x.style());
        Desk.due("source", 0, x.source());
        Desk.due("change", 0, x.change(0, 0));
        Desk.due("set", 1, x.set(1));
        Desk.due("lines", 0, x.count(5));
        Desk.dueThrow("judge", Desk.INDEX, () -> x.judge(0));
        Desk.dueThrow("where", Desk.NONE, () -> x.where(0));
    }

    private static void eachByItself() {
        Desk.about("ScholarsPress(): objects have nothing in common");
        Desk one = new Desk("b{show:block;}", "<b>aa</b>");
        Desk two = new Desk();
        one.font("width\"a\"900;");
        one.press.set(1);
        one.press.print(1);
        one.tape("abc");
        Desk.due("SOURCE of the other", 0, two.press.count(2));
        Desk.dueThrow("line of the other", Desk.STATE, () -> two.press.line(0, 0));
        Desk.dueThrow("OUT of the other", Desk.INDEX, () -> two.press.word(0));
        Desk.due("TAPE of the other", 0, two.tapeLength());
        two.source("a b");
        two.press.set(1);
        Desk.due("FONT of the other", 10000, two.press.spot(0, 1));
    }
}
