/** Promises 20 and 21: print and word. */
public final class PrintTest {
    private static Desk desk;

    public static void main(String[] args) {
        pages();
        words();
        tooLong();
        wrongInputs();
        Desk.close("PrintTest");
    }

    private static void press(String style, String source) {
        desk = new Desk();
        desk.style("b{show:block;}n{show:note;}f{show:float;}t{show:table;}r{show:row;}l{show:cell;}" + style);
        desk.source(source);
        desk.press.set(1);
    }

    private static void pages() {
        press("page{width:10000;height:36000;columns:2;gap:500;rule:1000;}b{first:1;last:1;}f{height:9000;}n{lead:3000;}h{show:block;head:yes;}",
                "<h>hh</h><b>a<n>x</n> bb <f/>cc dd</b>");
        // hh a1 and the NOTE's two lines | bb cc dd | the float
        Desk.due("columns side by side", "1 hh\n0 0 hh\n12000 0 a1\n30000 0 1\n33000 0 x\n0 10500 bb\n12000 10500 cc\n24000 10500 dd\n", desk.page(1));
        Desk.due("the last page", "2 hh\n0 =\n", desk.page(2));
        Desk.due("pages", 2, desk.press.count(3));
        press("page{width:20000;height:100000;}b{tolerance:10000;hyphens:yes;}", "x");
        desk.hyphens("ends 11 a1b");
        desk.source("<b>aaab-bb c   d</b>");
        desk.press.set(1);
        Desk.due("- behind a HYPHEN, and none more behind a DASH", "1 \n0 0 aaa-\n12000 0 b-bb\n24000 0 c d\n", desk.page(1));
        press("page{width:30000;}t{left:5000;}l{lead:6000;}n{align:right;}", "<t><r><l>aa bb</l><l>cc</l></r></t>x<n>y</n>");
        // 25000 for WISHES of 25000 and 10000
        Desk.due("rows cell by cell, and a NOTE", "1 \n0 5000 aa\n6000 5000 bb\n0 20000 cc\n12000 0 x1\n388000 15000 1 y\n", desk.page(1));
        press("page{width:10000;height:10000;rule:0;}*{lead:5000;first:1;last:1;}n{lead:5000;}", "<b>a</b>");
        Desk.due("an empty HEAD", "1 \n0 0 a\n", desk.page(1));
    }

    private static void words() {
        press("page{width:10000;}", "<b>ab</b>");
        Desk.dueThrow("word ahead of print", Desk.INDEX, () -> desk.press.word(0));
        Desk.due("print", 10, desk.press.print(1));
        Desk.due("word 0", 0x31200a3020302061L, desk.press.word(0));
        Desk.due("word 1", 0x200a302030206162L, desk.press.word(1));
        Desk.due("zeros behind the end", 0x62_0a00_0000_0000_00L, desk.press.word(8));
        Desk.due("the last byte", 0x0a00_0000_0000_0000L, desk.press.word(9));
        Desk.dueThrow("word behind the end", Desk.INDEX, () -> desk.press.word(10));
        Desk.dueThrow("word -1", Desk.INDEX, () -> desk.press.word(-1));
        desk.source("");
        desk.press.set(1);
        Desk.due("OUT stays when something else is SET", 0x31200a3020302061L, desk.press.word(0));
        Desk.dueThrow("no page", Desk.INDEX, () -> desk.press.print(1));
        Desk.due("OUT stays", 0x0a00_0000_0000_0000L, desk.press.word(9));
    }

    private static void tooLong() {
        String style = "page{width:40000;height:1000000;columns:2;}*{lead:1000;}";
        press(style, "<b>short</b>");
        Desk.due("print", 13, desk.press.print(1));
        String cells = "<r>" + "<l>&e;</l>".repeat(8) + "</r>";
        desk.source("<!e \"" + "a ".repeat(590) + "\"><t>" + cells + cells + "</t>");
        Desk.due("set", 1, desk.press.set(1));
        Desk.due("pages", 1, desk.press.count(3));
        Desk.dueThrow("more than 65536 bytes", Desk.INDEX, () -> desk.press.print(1));
        Desk.due("OUT stays", 0x31200a3020302073L, desk.press.word(0));
        Desk.dueThrow("and is as long as before", Desk.INDEX, () -> desk.press.word(13));
        // one row: eight cells of lines of 11 to 14 bytes
        desk.source("<!e \"" + "a ".repeat(500) + "\"><t>" + cells + "</t>");
        desk.press.set(1);
        int due = "1 \n".length();
        for (int cell = 0; cell < 8; cell++) {
            for (int line = 0; line < 500; line++) {
                due += (line * 1000 + " " + cell * 5000 + " a\n").length();
            }
        }
        Desk.due("all of a long page", due, desk.press.print(1));
        Desk.due("its last byte", 0x0a00_0000_0000_0000L, desk.press.word(due - 1));
        // a line of WORDS fills the page up to the last byte that it may have
        int missing = 65536 - due;
        desk.source("<!e \"" + "a ".repeat(500) + "\"><t>" + cells + "</t><b>" + "q".repeat(missing - "500000 0 \n".length()) + "</b>");
        desk.press.set(1);
        Desk.due("65536 bytes", 65536, desk.press.print(1));
        Desk.due("its last bytes", 0x7171_7171_7171_710aL, desk.press.word(65528));
        desk.change(0, 0, "q");
        desk.press.set(1);
        Desk.dueThrow("more than 65536 bytes", Desk.INDEX, () -> desk.press.print(1));
    }

    private static void wrongInputs() {
        Desk.dueThrow("print without SET", Desk.STATE, () -> new ScholarsPress().print(1));
        press("", "a");
        Desk.dueThrow("page 0", Desk.INDEX, () -> desk.press.print(0));
        Desk.dueThrow("page 2", Desk.INDEX, () -> desk.press.print(2));
        Desk.dueThrow("page -1", Desk.INDEX, () -> desk.press.print(-1));
    }
}
