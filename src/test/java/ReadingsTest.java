/** Sentences that could be read otherwise, each beside those that use its words: how they are read here. */
public final class ReadingsTest {
    private static Desk desk;

    public static void main(String[] args) {
        numberOfANote();
        linesOfANote();
        waveringOfARef();
        waveringOfANote();
        settledByLinesAsText();
        noIndent();
        indentOfOthers();
        fontIsNotCompared();
        sizeAtTheEnd();
        sizeAheadOfAnotherSign();
        oneTooMuch();
        hyphenHasNoKern();
        narrowCells();
        titleWithoutReference();
        Desk.close("ReadingsTest");
    }

    private static void press(String style, String source) {
        desk = new Desk(Desk.SHOWS + style, source);
    }

    private static void numberOfANote() {
        Desk.about("the digits of the number stand where they are, in the size of the ELEMENT they are in (in FLOW the one that the NOTE is in, in a NOTE the NOTE)");
        press("d{show:block;size:20000;}n{size:4000;align:right;}", "<d>a<n>x</n> b</d>");
        desk.press.set(1);
        Desk.due("in FLOW", 3 * 10000, desk.press.spot(0, 1));
        Desk.due("in the NOTE", "1 \n0 0 a1 b\n388000 " + (300000 - 3 * 2000) + " 1 x\n", desk.page(1));
        press("n{size:200%;align:right;}s{size:2000;}", "<s>a<n>x<n>y</n></n> b</s>");
        desk.press.set(1);
        Desk.due("in FLOW", 3 * 1000, desk.press.spot(0, 1));
        Desk.due("in the NOTE, with one that is none in it", "1 \n0 0 a1 b\n388000 " + (300000 - 3 * 2000 - 4000) + " 1 xy\n", desk.page(1));
    }

    private static void linesOfANote() {
        Desk.about("in a NOTE: its number, a blank, if it has a FIELD of: the LINES of that ID and a blank, then LABEL and text");
        press("page{lines:all;}n{size:4000;align:right;label:\"L\";}b{count:yes;size:20000;}",
                "<b id=\"p\">a<n of=\"p\"><i>x</i></n></b>");
        desk.press.set(9);
        Desk.due("number, LINES, LABEL in the NOTE's size", "1 \n0 0 a1\n388000 " + (300000 - 6 * 2000) + " 1 1 Lx\n", desk.page(1));
    }

    private static String waverers() {
        StringBuilder got = new StringBuilder();
        for (int k = 0; k < desk.press.count(10); k++) {
            got.append(k > 0 ? " " : "").append(desk.press.wavering(k));
        }
        return got.toString();
    }

    private static void waveringOfARef() {
        Desk.about("LINE: the NUMBER of that line (a ref to a line has no other)");
        String style = "page{width:10000;lines:all;}b{count:yes;}";
        press(style, "x<b id=\"p\">aa bb</b><e to=\"p\" as=\"line\"/>");
        Desk.due("one ROUND", -1, desk.press.set(1));
        Desk.due("0, and it is 1", "1", waverers());
        Desk.due("two", 2, desk.press.set(9));
        press("page{width:10000;}", "x<b id=\"p\">aa bb</b><e to=\"p\" as=\"line\"/>");
        Desk.due("where it ends is nothing to it", 1, desk.press.set(9));
        press("page{width:10000;}", "x<b id=\"p\">aa bb</b><n of=\"p\"/>");
        Desk.due("but to a NOTE", 2, desk.press.set(9));
    }

    private static void waveringOfANote() {
        Desk.about("a ref, contents, index or NOTE whose text in the last ROUND had pages or LINES that are not those found");
        String style = "page{lines:all;}b{count:yes;}";
        press(style, "<b id=\"p\">x</b><i id=\"q\">y</i><n of=\"q\"><e to=\"p\" as=\"page\"/></n>");
        desk.press.set(1);
        Desk.due("only the ref in it", "3", waverers());
        press(style, "<b id=\"p\">x</b><n of=\"p\"><e to=\"p\" as=\"title\"/></n>");
        desk.press.set(1);
        Desk.due("only the NOTE", "1", waverers());
        press(style, "<b id=\"p\">x</b><n of=\"p\"><e to=\"p\" as=\"line\"/></n>");
        desk.press.set(1);
        Desk.due("both", "1 2", waverers());
        press(style, "<b id=\"p\">x</b><n>y<n of=\"p\"/></n><t><r><c><n of=\"p\"/></c></r></t>");
        desk.press.set(1);
        Desk.due("what shows note, but is none", "", waverers());
    }

    private static void settledByLinesAsText() {
        Desk.about("LINES: of that in which it begins and, if it is another one, - and of that in which it ends.");
        // 1 and 1-1 are not the same LINES: the line of its end is another one with the same NUMBER
        press("page{width:10000;height:25000;lines:page;rule:0;}b{count:yes;first:1;last:1;}n{size:1000;lead:1000;}",
                "<b><i id=\"p\">aa bb cc</i></b><b>d<n of=\"p\"/></b>");
        Desk.due("set", 2, desk.press.set(9));
        Desk.due("text", "aa|bb||cc|d1|1 1-1", desk.texts());
        Desk.due("one ROUND", -1, desk.press.set(1));
        Desk.due("text", "aa|bb||cc|d1|1 0", desk.texts());
    }

    private static void changed(String call, String style, int due) {
        String source = "<b>aa<n>bb</n></b><t><r><c>cc</c></r></t>";
        press("", source);
        desk.press.set(1);
        desk.style(Desk.SHOWS + style);
        desk.press.set(1);
        Desk.due(call, due, desk.press.count(11));
    }

    private static void noIndent() {
        Desk.about("(at least 1000; NOTES, cells: no indent); PARAGRAPHS that are not as one of what was SET before (..; lead, indent, align, tolerance)");
        changed("nothing", "", 0);
        changed("indent of NOTES and cells, which have none", "n{indent:5000;}c{indent:7000;}", 0);
        changed("indent of all", "*{indent:5000;}", 1);
        changed("lead of NOTES and cells", "n{lead:5000;}c{lead:7000;}", 2);
        changed("align of NOTES and cells", "n{align:left;}c{align:left;}", 2);
        changed("tolerance of NOTES and cells", "n{tolerance:5000;}c{tolerance:7000;}", 2);
    }

    private static void indentOfOthers() {
        Desk.about("less indent for the first line (contents and index have the properties of theirs)");
        press("page{width:10000;}k{indent:3000;}x{indent:4000;}d{depth:1;}*{size:1000;}", "<k/><d>q</d><m>r</m><x/>");
        desk.press.set(9);
        Desk.due("where lines begin", "3000 0 4000", desk.lines(6));
        desk.style(Desk.SHOWS + "page{width:10000;}k{indent:3001;}x{indent:4001;}d{depth:1;}*{size:1000;}");
        desk.press.set(9);
        Desk.due("rows of contents and index are new", 2, desk.press.count(11));
    }

    private static void fontIsNotCompared() {
        Desk.about("(the same bytes, sizes, BREAKS and width; lead, indent, align, tolerance)");
        press("page{width:30000;}", "<b>aa aa aa</b>");
        desk.press.set(1);
        Desk.due("lines", 2, desk.press.count(5));
        desk.font("width\"a\"1000;");
        desk.press.set(1);
        Desk.due("other lines", 3, desk.press.count(5));
        Desk.due("by another FONT they are the same PARAGRAPHS", 0, desk.press.count(11));
    }

    private static void sizeAtTheEnd() {
        Desk.about("BROKEN at the first SIGN that .. is out of range; its length at the end, if something is missing");
        desk = new Desk();
        desk.broken("style", "a{size:50", 7);
        desk.broken("style", "a{size:50 \n", 7);
        desk.broken("style", "a{size:999", 7);
        desk.broken("style", "a{size:1000", 11);
        desk.broken("style", "a{size:100001", 7);
        desk.broken("style", "a{size:0%", 7);
        desk.broken("style", "a{size:1%", 9);
        desk.broken("style", "a{size:1001%", 7);
        desk.broken("style", "a{size:5000%", 7);
        desk.broken("style", "a{size:12345678", 7);
        desk.broken("style", "a{lead:50", 7);
        desk.broken("style", "page{width:50", 11);
        desk.broken("font", "width\"a\"5001", 8);
        desk.broken("font", "kern\"a\"\"b\"-501", 11);
    }

    private static void sizeAheadOfAnotherSign() {
        Desk.about("BROKEN at the PLACE of the first byte of the first SIGN");
        desk = new Desk();
        desk.broken("style", "a{size:50 \"x", 7);
        desk.broken("style", "a{size:5000 \"x", 12);
        desk.broken("style", "a{size:50 abcdefghijklm;}", 7);
        desk.broken("style", "a{size:5000 abcdefghijklm;}", 12);
        desk.broken("style", "a{size:50 50;}", 7);
        desk.broken("style", "a{size:5000 %;}", 7);
        desk.broken("style", "a{size:50 % %;}", 12);
        desk.broken("style", "a{size:% 50;}", 7);
    }

    private static void oneTooMuch() {
        Desk.about("or one too much (what a sort of SIGNS begins with: of a STEP or SELECTOR its NAME or *, not the > or , ahead)");
        desk = new Desk();
        desk.broken("style", "a/a/a/a/a/a/a/a / b{}", 18);
        desk.broken("style", "a,".repeat(119) + "a , b{}", 242);
        desk.broken("style", "a[b]:first:last:empty [c]{}", 22);
        desk.broken("source", "<a b=\"\" c=\"\" d=\"\" e=\"\" f=\"\" g=\"\" h=\"\"/>", 33);
    }

    private static void hyphenHasNoKern() {
        Desk.about("At a HYPHEN that is broken the line has a - more, of the size of the byte ahead.");
        press("page{width:20000;}b{align:right;hyphens:yes;}", "<b>aabb</b>");
        desk.font("width\"a\"800;width\"b\"800;width\"-\"400;kern\"a\"\"-\"-300;join\"a\"\"-\"900;");
        desk.hyphens("ends 11 =aa-bb");
        desk.press.set(1);
        Desk.due("the - by itself", "1 \n0 0 aa-\n12000 4000 bb\n", desk.page(1));
    }

    private static void narrowCells() {
        Desk.about("of a cell its column's in the table; at least 1000 each");
        // LEASTS 1000 and 3000 of 1000: columns of 250 and 750, their PARAGRAPHS are 1000 wide
        press("page{width:10000;}t{left:9000;}c{size:1000;}", "<t><r><c>a</c><c>bbbbbb</c></r></t>");
        desk.press.set(1);
        Desk.due("widths", "1000 1000", desk.paragraphs(4));
        Desk.due("where they begin", "1 \n0 9000 a\n0 9250 bbbbbb\n", desk.page(1));
    }

    private static void titleWithoutReference() {
        Desk.about("TITLE of a SHOWN ELEMENT: its LABEL and text and those of SHOWN ELEMENTS in it (a REFERENCE is no text: that directly in a ref is none)");
        press("d{depth:1;show:block;}", "<d id=\"p\">a<e to=\"p\" as=\"page\">no</e>b</d><k/>");
        desk.press.set(9);
        Desk.due("text", "a1b|ab 1", desk.texts());
        Desk.due("bytes of TITLES", "2 0 0", desk.elements(6));
    }
}
