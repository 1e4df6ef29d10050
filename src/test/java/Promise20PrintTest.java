/** Promise 20: print. */
public final class Promise20PrintTest {
    private static Desk desk;

    public static void main(String[] args) {
        pages();
        heads();
        floatsLinesNotes();
        rows();
        text();
        manyDigits();
        mostBytes();
        noSuch();
        Desk.close("Promise20PrintTest");
    }

    private static void press(String style, String source) {
        desk = new Desk("page{width:10000;}" + Desk.SHOWS + style, source);
        desk.press.set(9);
    }

    private static void pages() {
        Desk.about("OUT is page n, from 1 on: its number, a blank, its HEAD, byte 10. Answers how many.");
        press("page{height:12000;}", "<b>aa</b>".repeat(11));
        for (int n = 1; n <= 11; n++) {
            String due = n + " \n0 0 aa\n";
            Desk.due("bytes of page " + n, due.length(), desk.press.print(n));
            Desk.due("page " + n, due, desk.page(n));
        }
    }

    private static void heads() {
        Desk.about("its number, a blank, its HEAD, byte 10");
        press("b{head:yes;}", "<b>  a  b </b>");
        Desk.due("HEAD", "1 a b\n0 0 a\n12000 0 b\n", desk.page(1));
        press("page{width:1000000;}b{head:yes;}", "<b>" + "x".repeat(41) + "</b>");
        Desk.due("HEAD of 40 bytes", "1 " + "x".repeat(40) + "\n0 0 " + "x".repeat(41) + "\n", desk.page(1));
    }

    private static void floatsLinesNotes() {
        Desk.about("of each of its columns, in order: of each float its top, a blank, = and byte 10; of each line, then of each line of NOTES there: its top, a blank, where it begins from the page's left (columns stand side by side, gap between), a blank, its text and byte 10");
        press("page{height:36000;columns:3;gap:1;rule:0;}f{height:1000;}b{left:2;}n{lead:3000;align:right;}",
                "<b>a<n/></b><b><f/><f/>b</b><b>cc</b><b>dd</b><b>e</b>");
        Desk.due("columns", "0 0 1 1 1", desk.lines(0));
        Desk.due("page", "1 \n0 =\n1000 =\n2000 2 a1\n14000 2 b\n33000 5000 1\n0 10003 cc\n12000 10003 dd\n24000 10003 e\n", desk.page(1));
        press("page{height:12000;columns:4;gap:100000;}", "<b>a</b>".repeat(5));
        Desk.due("four columns", "1 \n0 0 a\n0 110000 a\n0 220000 a\n0 330000 a\n", desk.page(1));
        Desk.due("the last page", "2 \n0 0 a\n", desk.page(2));
        for (int again = 0; again < 2; again++) {
            press("page{height:12000;columns:4;}", "<b>a</b>".repeat(8));
            desk.press.set(1);
            desk.source("<b>b</b>".repeat(5));
            desk.press.set(1);
            Desk.due("no column of one SET before", "2 \n0 0 b\n", desk.page(2));
        }
        press("page{height:12000;columns:2;}f{height:12000;}", "<b>a</b><f/><f/>");
        Desk.due("a column of a float alone", "1 \n0 0 a\n0 =\n", desk.page(1));
        Desk.due("a page of one", "2 \n0 =\n", desk.page(2));
    }

    private static void rows() {
        Desk.about("of a row its cells' lines so, cell by cell");
        press("page{width:30000;height:24000;columns:2;gap:5;}t{left:10;}c{lead:7000;}",
                "<t><r><c>aa bb</c><c/><c>cc</c></r><r><c/><c/><c>dd</c></r></t>");
        // WISHES 25000, 1000, 10000, LEASTS 10000, 1000, 10000 of 29990: 18990, 1000, 10000
        Desk.due("rows", "1 \n0 10 aa\n7000 10 bb\n0 20000 cc\n0 50005 dd\n", desk.page(1));
        Desk.due("columns of the rows", "0 1", desk.lines(0));
    }

    private static void text() {
        Desk.about("Text: WORDS, a blank between two; - behind a HYPHEN.");
        desk = new Desk("page{width:20000;height:100000;}b{show:block;tolerance:10000;hyphens:yes;}", "<b>aaab-bb c \n d &lt;&amp;</b>");
        desk.hyphens("ends 11 a1b");
        desk.press.set(1);
        Desk.due("page", "1 \n0 0 aaa-\n12000 0 b-bb\n24000 0 c d\n36000 0 <&\n", desk.page(1));
        desk.source("<b>aaa-bb ccc-</b>");
        desk.press.set(1);
        Desk.due("no other - behind a DASH", "1 \n0 0 aaa-\n12000 0 bb\n24000 0 ccc-\n", desk.page(1));
    }

    private static void manyDigits() {
        Desk.about("its top, a blank, where it begins (numbers are written in digits)");
        press("page{width:1000000;height:1000000;}b{left:500000;lead:200000;}", "<b>a</b>".repeat(5));
        Desk.due("six digits", "1 \n0 500000 a\n200000 500000 a\n400000 500000 a\n600000 500000 a\n800000 500000 a\n", desk.page(1));
        press("page{width:1000000;height:12000;columns:4;gap:100000;}b{left:500000;}", "<b><b><b>a</b></b></b>".repeat(4));
        Desk.due("seven digits", "1 \n0 1500000 a\n0 2600000 a\n0 3700000 a\n0 4800000 a\n", desk.page(1));
    }

    /** A page of eight cells of 500 lines, and a line of so many bytes more. */
    private static String longPage(int more) {
        String cells = "<r>" + "<c>&e;</c>".repeat(8) + "</r>";
        return "<!e \"" + "a ".repeat(500) + "\"><t>" + cells + "</t><b>" + "q".repeat(more) + "</b>";
    }

    private static void mostBytes() {
        Desk.about("More than 65536 bytes: IndexOutOfBoundsException, OUT stays.");
        String style = "page{width:40000;height:1000000;}" + Desk.SHOWS + "*{lead:1000;}";
        int length = "1 \n".length() + "500000 0 \n".length();
        for (int cell = 0; cell < 8; cell++) {
            for (int line = 0; line < 500; line++) {
                length += (line * 1000 + " " + cell * 5000 + " a\n").length();
            }
        }
        desk = new Desk(style, longPage(65536 - length)).set(1);
        Desk.due("65536", 65536, desk.press.print(1));
        Desk.due("the last bytes", 0x717171717171710aL, desk.press.word(65528));
        Desk.due("the last byte", 0x0a00000000000000L, desk.press.word(65535));
        Desk.dueThrow("behind it", Desk.INDEX, () -> desk.press.word(65536));
        desk = new Desk(style, "<b>short</b>").set(1);
        Desk.due("a short page", 13, desk.press.print(1));
        desk.source(longPage(65537 - length));
        desk.press.set(1);
        Desk.dueThrow("65537", Desk.INDEX, () -> desk.press.print(1));
        Desk.due("OUT stays", 0x31200a3020302073L, desk.press.word(0));
        Desk.due("its last byte", 0x0a00000000000000L, desk.press.word(12));
        Desk.dueThrow("it is as long as it was", Desk.INDEX, () -> desk.press.word(13));
        Desk.dueThrow("65537 again", Desk.INDEX, () -> desk.press.print(1));
        Desk.due("OUT stays", 0x31200a3020302073L, desk.press.word(0));
    }

    private static void noSuch() {
        Desk.about("Nothing is SET: IllegalStateException; no such page: IndexOutOfBoundsException");
        desk = new Desk("page{height:12000;}b{show:block;}", "<b>a</b><b>b</b>");
        Desk.dueThrow("nothing SET", Desk.STATE, () -> desk.press.print(1));
        Desk.dueThrow("nothing SET", Desk.STATE, () -> desk.press.print(0));
        desk.press.set(1);
        Desk.dueRange("print", 1, 2, Desk.INDEX, n -> desk.press.print(n));
        Desk.dueThrow("page 0", Desk.INDEX, () -> desk.press.print(0));
        Desk.due("OUT stays", 0x32200a3020302062L, desk.press.word(0));
        desk.source("");
        Desk.due("of what is SET", "1 \n0 0 a\n", desk.page(1));
        desk.press.set(1);
        Desk.dueThrow("no pages", Desk.INDEX, () -> desk.press.print(1));
        Desk.due("OUT stays", 0x31200a3020302061L, desk.press.word(0));
    }
}
