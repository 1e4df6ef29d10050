/** Tables: widths of their columns, heights of their rows (promises 13, 15, 20). */
public final class TableTest {
    private static Desk desk;

    public static void main(String[] args) {
        wishes();
        leasts();
        tooNarrow();
        heights();
        columns();
        Desk.close("TableTest");
    }

    private static void press(String style, String source) {
        desk = new Desk();
        desk.style("t{show:table;}r{show:row;}l{show:cell;}" + style);
        desk.source(source);
        desk.press.set(1);
    }

    private static void widths(String call, long... due) {
        for (int p = 0; p < due.length; p++) {
            Desk.due(call + ", width of cell " + p, due[p], desk.press.paragraph(p, 4));
        }
    }

    private static void wishes() {
        press("page{width:100000;}t{left:1000;right:2000;}", "<t><r><l>aa bb</l><l>c</l><l>dd</l></r></t>");
        // 25000, 5000, 10000 of 97000: 19000 more each
        widths("WISHES", 44000, 24000, 29000);
        Desk.due("where the row begins", 1000, desk.press.line(0, 6));
        Desk.due("where cells begin", "1 \n0 1000 aa bb\n0 45000 c\n0 69000 dd\n", desk.page(1));
        press("page{width:100000;}t{left:1000;right:2001;}", "<t><r><l>aa bb</l><l>c</l><l>dd</l></r></t>");
        widths("the rest to the first ones", 25000 + 18999 + 1, 5000 + 18999 + 1, 10000 + 18999);
        press("page{width:25000;}", "<t><r><l>aa bb</l></r></t>");
        widths("as wide as they are together", 25000);
    }

    private static void leasts() {
        // WISHES 40000 and 25000, LEASTS 10000 and 10000, W 41000: 21000 more, by 30000 and 15000
        press("page{width:41000;}", "<t><r><l>aa bb cc</l><l>dd ee</l></r></t>");
        widths("LEASTS", 24000, 17000);
        press("page{width:41001;}", "<t><r><l>aa bb cc</l><l>dd ee</l></r></t>");
        // 21001 * 30000 / 45000 is 14000, * 15000 / 45000 is 7000; one is left
        widths("LEASTS, the rest to the first one", 24001, 17000);
        press("page{width:20000;}", "<t><r><l>aa bb cc</l><l>dd ee</l></r></t>");
        widths("LEASTS alone", 10000, 10000);
        press("page{width:40000;}l{hyphens:yes;}", "x");
        desk.hyphens("ends 11 a1b");
        desk.source("<t><r><l>aaaab</l><l>cc cc</l></r></t>");
        desk.press.set(1);
        // aaaa- is 25000 wide, and so is aaaab: WISHES 25000, 25000; LEASTS 25000, 10000
        widths("a PART with its -", 25000, 15000);
    }

    private static void tooNarrow() {
        press("page{width:10000;}", "<t><r><l>aaaa</l><l>bb</l></r></t>");
        // LEASTS 20000, 10000 of 10000: 6666, 3333, one is left
        widths("W by LEASTS", 6667, 3333);
        press("page{width:10000;}", "<t><r><l>aaaaaaaaaaaaaaaaaaaaa</l><l/><l>b</l></r></t>");
        // LEASTS 105000, 1000, 5000 of 10000: 9459, 90, 450, one left
        Desk.due("at least 1000 for a cell", 1000, desk.press.paragraph(1, 4));
        widths("W by LEASTS", 9460);
        Desk.due("but not for its column", "1 \n0 0 aaaaaaaaaaaaaaaaaaaaa\n0 9550 b\n", desk.page(1));
    }

    private static void heights() {
        press("page{width:30000;}l{lead:5000;}r{lead:12000;}l:last{lead:7000;}",
                "<t><r><l>aa bb cc</l><l>dd</l></r><r><l>e</l></r><r><l>ff</l><l>gg hh ii</l></r></t>");
        // WISHES 40000 and 40000: LEASTS and (30000 - 20000) / 2 each: 15000
        Desk.due("lines", 3, desk.press.count(5));
        Desk.due("the highest cell", 15000, desk.press.line(1, 1));
        Desk.due("one lead of the row at least", 27000, desk.press.line(2, 1));
        Desk.due("page", "1 \n0 0 aa\n5000 0 bb\n10000 0 cc\n0 15000 dd\n15000 0 e\n27000 0 ff\n27000 15000 gg\n"
                + "34000 15000 hh\n41000 15000 ii\n", desk.page(1));
    }

    private static void columns() {
        press("page{width:90000;}n{show:none;}",
                "<t><r><l>a</l></r><r><l/><l> </l><l/><l/></r><r><l/><n/><l>b</l><l/></r></t>");
        // three columns: the row without text counts for none; WISHES 5000, 5000, 1000
        widths("an empty cell counts, a row without text does not", 5000 + 26334, 5000 + 26333);
        Desk.due("lines", 2, desk.press.count(5));
        press("page{width:90000;}l{align:right;indent:5000;}", "<t><r><l>a</l></r></t>");
        Desk.due("a cell has no indent, but an align", "1 \n0 85000 a\n", desk.page(1));
        press("page{width:90000;}", "<t/><t><r/></t><t>x<r>y</r></t>");
        Desk.due("tables without text", 0, desk.press.count(5));
        press("page{width:90000;}t{label:\"T\";}r{label:\"R\";}l{label:\"L\";}", "<t><r><l/></r></t>");
        Desk.due("LABEL of a cell alone", "1 \n0 0 L\n", desk.page(1));
    }
}
