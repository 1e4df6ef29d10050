/** Promise 15: paragraph. */
public final class Promise15ParagraphTest {
    private static Desk desk;

    public static void main(String[] args) {
        order();
        whats();
        noSuch();
        Desk.close("Promise15ParagraphTest");
    }

    private static void order() {
        Desk.about("PARAGRAPH p as SET (those of FLOW, cells, contents, index with them, in order, then those of NOTES); 6: the ELEMENT whose PARAGRAPH it is (cell, NOTE, BLOCK), -1 for ROOT");
        desk = new Desk(Desk.SHOWS + "d{depth:1;}", "q<n>one</n><b>r</b><k/><t><r><c>s</c><c/><c>t</c></r></t><m>u</m><x/><d>v</d><n>two</n>");
        desk.press.set(1);
        // 0 n, 1 b, 2 k, 3 t, 4 r, 5 c, 6 c, 7 c, 8 m, 9 x, 10 d, 11 n
        Desk.due("whose they are", "-1 1 2 5 7 -1 9 -1 0 11", desk.paragraphs(6));
        Desk.due("bytes", "2 1 3 1 1 1 4 2 5 5", desk.paragraphs(5));
        Desk.due("PARAGRAPHS", 10, desk.press.count(6));
    }

    private static void whats() {
        Desk.about("what 0: COST of all its lines, 1: lines, 2: BREAKS, 3: the tolerance TOLD, 4: its width, 5: bytes");
        desk = new Desk("page{width:50000;}b{show:block;left:1;}d{show:block;tolerance:800;}", "<b>aa</b><d>aaaa bbbb cc</d><d>aaaa bbbbb ccccccccccc</d>");
        desk.press.set(1);
        // aaaa bbbb misses 5000 of a stretch of 2500: 2000, of BADNESS 800, CLASS 3 behind 1 and ahead of 1
        Desk.due("COSTS", "100 " + (810 * 810 + 10000 + 100 + 10000) + " " + (100 + 10010L * 10010L + 1000000000L + 5000), desk.paragraphs(0));
        Desk.due("lines", "1 2 2", desk.paragraphs(1));
        Desk.due("BREAKS", "1 3 3", desk.paragraphs(2));
        Desk.due("TOLD", "200 800 10001", desk.paragraphs(3));
        Desk.due("widths", "49999 50000 50000", desk.paragraphs(4));
        Desk.due("bytes", "2 12 22", desk.paragraphs(5));
        desk = new Desk("page{width:10000;}b{show:block;}", "<b>" + "aaa ".repeat(2) + "</b>").set(1);
        Desk.due("COST beyond an int", 10010L * 10010L + 1000000000L + 15000 + 5000 + 15000 - 1666 - 10000, desk.press.paragraph(0, 0));
    }

    private static void noSuch() {
        Desk.about("Nothing is SET: IllegalStateException; no such PARAGRAPH: IndexOutOfBoundsException");
        desk = new Desk(Desk.SHOWS, "a<n/>");
        Desk.dueThrow("paragraph", Desk.STATE, () -> desk.press.paragraph(0, 0));
        Desk.dueThrow("paragraph", Desk.ARGUMENT, () -> desk.press.paragraph(0, 7));
        desk.press.set(1);
        Desk.dueRange("paragraph", 0, 1, Desk.INDEX, p -> desk.press.paragraph(p, 0));
        Desk.dueRange("what", 0, 6, Desk.ARGUMENT, what -> desk.press.paragraph(0, what));
        Desk.dueThrow("what is looked at first", Desk.ARGUMENT, () -> desk.press.paragraph(9, 7));
        desk.source("");
        desk.press.set(1);
        Desk.dueThrow("no PARAGRAPHS", Desk.INDEX, () -> desk.press.paragraph(0, 0));
    }
}
