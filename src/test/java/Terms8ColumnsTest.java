/** Terms, 8 COLUMNS: each sentence that names a boundary. A WORD of two bytes is a line of 12000. */
public final class Terms8ColumnsTest {
    private static Desk desk;

    public static void main(String[] args) {
        flow();
        gaps();
        gapAheadOfAColumn();
        firstAndLast();
        keep();
        begins();
        ends();
        heightOfAColumn();
        oneNote();
        severalNotes();
        rests();
        floatsWait();
        floatsThenNotes();
        costs();
        hyphenAtTheEnd();
        restAlone();
        leastLine();
        aheadOfTheSameLine();
        allRows();
        noRow();
        pages();
        places();
        numbers();
        heads();
        Desk.close("Terms8ColumnsTest");
    }

    private static void press(String style, String source) {
        desk = new Desk("page{width:10000;}" + Desk.SHOWS + style, source);
        desk.press.set(9);
    }

    private static void none(String style, String source) {
        desk = new Desk("page{width:10000;}" + Desk.SHOWS + style, source);
        Desk.dueThrow("set of " + source + " by " + style, Desk.ARITHMETIC, () -> desk.press.set(1));
    }

    private static void columns(String style, String source, String due) {
        press(style, source);
        Desk.due("columns of " + source + " by " + style, due, desk.lines(0).replace(" ", ""));
    }

    private static void tops(String style, String source, String due) {
        press(style, source);
        Desk.due("tops of " + source + " by " + style, due, desk.lines(1));
    }

    private static void flow() {
        Desk.about("FLOW: the lines of PARAGRAPHS in order (not of NOTES), each as high as its lead.");
        tops("d{show:block;lead:1000;}g{show:block;lead:200000;}", "<d>aa bb</d><g>cc</g><b>dd</b>ee<n>x</n>", "0 1000 2000 202000 214000");
        Desk.due("lines", 5, desk.press.count(5));
        Desk.due("PARAGRAPHS", "0 0 1 2 3", desk.lines(2));
    }

    private static void gaps() {
        Desk.about("GAP between two: the greatest of above of the BLOCKS that begin between them and below of those that end there; 0 without.");
        tops("b{below:5000;}d{show:block;above:7000;}", "<b>aa</b><d>bb</d>", "0 19000");
        tops("b{below:7000;}d{show:block;above:5000;}", "<b>aa</b><d>bb</d>", "0 19000");
        tops("b{below:500000;}page{height:1000000;}", "<b>aa</b>bb", "0 512000");
        tops("b{above:1;below:2;}d{show:block;above:3;below:4;}", "<b>aa</b><b><d>bb</d></b>cc", "0 12003 24007");
        tops("b{above:3;below:4;}d{show:block;above:1;below:2;}", "<b>aa</b><b><d>bb</d></b>cc", "0 12004 24008");
        tops("b{above:9;below:8;}", "aa<b/>bb", "0 12009");
        tops("b{above:8;below:9;}", "aa<b> \n </b>bb", "0 12009");
        tops("b{above:9;}d{show:block;below:10;}", "aa<b><d/></b>bb", "0 12010");
        tops("i{above:9;below:9;}h{above:9;below:9;}f{above:9;}e{below:9;}", "aa<h/> <i>bb</i> <f/><e/>", "0 12000 24000");
        tops("b{above:9;below:9;}", "<b>aa bb</b>", "0 12000");
        tops("k{above:7;below:5;}", "aa<k/>bb", "0 12007");
        tops("x{above:5;below:7;}", "aa<x/>bb", "0 12007");
        tops("t{above:5;below:7;}", "aa<t><r/></t>bb", "0 12007");
        tops("t{above:3;below:4;}r{above:50;below:50;}c{above:60;below:60;}", "aa<t><r><c>bb</c></r><r><c>cc</c></r></t>dd", "0 12003 24003 36007");
        tops("page{width:20000;}k{above:3;below:4;}d{depth:1;above:50;}", "aa<k/><d>q</d> <d>w</d>", "0 12003 24003 36007");
    }

    private static void gapAheadOfAColumn() {
        Desk.about("A column of lines i .. j (one at least, without the GAP ahead)");
        tops("b{above:5000;}", "<b>aa</b><b>bb</b>", "0 17000");
        columns("page{height:29000;}b{above:5000;}", "<b>aa</b><b>bb</b><b>cc</b><b>dd</b>", "0011");
        Desk.due("tops", "0 17000 0 17000", desk.lines(1));
        columns("page{height:28999;}b{above:5000;}", "<b>aa</b><b>bb</b>", "01");
        Desk.due("tops", "0 0", desk.lines(1));
        columns("page{height:12000;}b{above:500000;}", "<b>aa</b><b>bb</b>", "01");
    }

    private static void firstAndLast() {
        Desk.about("Behind a line a column may end, if it is in no PARAGRAPH, or in one behind first lines at least and ahead of last ones at least");
        String four = "<b>aa bb cc dd</b>";
        columns("page{height:36000;}b{first:1;last:1;}", four, "0001");
        columns("page{height:36000;}b{first:2;last:1;}", four, "0001");
        columns("page{height:36000;}b{first:3;last:1;}", four, "0001");
        none("page{height:36000;}b{first:4;last:1;}", four);
        columns("page{height:36000;}b{first:1;last:2;}", four, "0011");
        columns("page{height:36000;}b{first:1;last:3;}", four, "0111");
        none("page{height:36000;}b{first:1;last:4;}", four);
        columns("page{height:36000;}b{first:2;last:2;}", four, "0011");
        none("page{height:36000;}b{first:2;last:3;}", four);
        none("page{height:36000;}b{first:3;last:2;}", four);
        columns("page{height:48000;}b{first:9;last:9;}", four, "0000");
        columns("page{height:12000;}b{first:9;last:9;}", "<b>aa</b><b>bb</b>cc", "012");
        String eighteen = "<b>" + "aa ".repeat(18) + "</b>";
        columns("page{height:192000;}b{first:9;last:9;}", eighteen, "0".repeat(9) + "1".repeat(9));
        none("page{height:192000;}b{first:9;last:9;}", eighteen.replaceFirst("aa ", ""));
        Desk.about("first, last: 2 i (of the BLOCK whose PARAGRAPH it is)");
        columns("page{height:36000;}i{first:1;last:1;}", "<b><i>aa bb cc dd</i></b>", "0011");
        columns("page{height:36000;}i{first:1;last:1;}", "<i><b>aa bb cc dd</b></i>", "0001");
        columns("page{height:36000;}", "aa bb cc dd", "0011");
        columns("page{height:12000;width:20000;}", "<t><r><c>aa</c></r><r><c>bb</c></r></t>", "01");
    }

    private static void keep() {
        Desk.about("not behind the last line of a PARAGRAPH (or row) whose BLOCK says keep, but that of all");
        String style = "page{height:24000;}d{show:block;keep:yes;}";
        columns(style, "<b>aa</b><d>bb</d><b>cc</b>", "011");
        columns(style, "<b>aa</b><b>bb</b><d>cc</d>", "001");
        columns(style, "<d>aa</d>", "0");
        none(style, "<d>aa</d><d>bb</d><d>cc</d>");
        columns("page{height:24000;}d{show:block;keep:yes;first:1;last:1;}", "<d>aa bb cc</d><b>dd</b>", "0011");
        columns(style, "<d><b>aa</b></d><b>bb</b><b>cc</b>", "001");
        columns("page{height:24000;width:20000;}t{keep:yes;}", "<b>aa</b><t><r><c>bb</c></r></t><b>cc</b>", "011");
        none("page{height:24000;width:20000;}t{keep:yes;}", "<t><r><c>aa</c></r><r><c>bb</c></r></t><b>cc</b>");
        columns("page{height:24000;width:20000;}r{keep:yes;}c{keep:yes;}", "<t><r><c>aa</c></r><r><c>bb</c></r></t><b>cc</b>", "001");
        none("page{height:24000;width:20000;}k{keep:yes;}d{depth:1;}", "<k/><d>q</d><d>w</d>");
        columns("page{height:24000;width:20000;}k{keep:no;}d{depth:1;}", "<k/><d>q</d><d>w</d>", "001");
        columns("page{height:24000;}i{keep:yes;}", "<b>aa</b><b><i>bb</i></b><b>cc</b>", "001");
    }

    /** The lines in which the ELEMENT with the ID p begins and ends. */
    private static void lines(String style, String source, int begin, int end) {
        press(style, source);
        Desk.due("p begins in " + source, begin, desk.where("p", 3));
        Desk.due("p ends in " + source, end, desk.where("p", 4));
    }

    private static void begins() {
        Desk.about("It begins in the line of the first byte in it, or, if there is none, of the first behind its beginning (in the order of SOURCE), else in the last line of FLOW");
        lines("", "<b><i id=\"p\">aa</i> bb</b>", 0, 0);
        lines("", "<b>aa <i id=\"p\">bb</i></b>", 1, 1);
        lines("", "<b>aa<i id=\"p\"> bb</i></b>", 1, 1);
        lines("b{size:20000;}", "<b>a<i id=\"p\"> -b</i></b>", 1, 2);
        lines("", "<b>aa<i id=\"p\"/> bb</b>", 1, 1);
        lines("", "<b>aa<i id=\"p\"> </i>bb</b>", 1, 1);
        lines("", "<b>a<i id=\"p\"/>a bb</b>", 0, 0);
        lines("", "<b>aa <i id=\"p\"><i/></i></b><b>bb</b>", 1, 1);
        lines("", "<b>aa bb</b><i id=\"p\"/>", 1, 1);
        lines("", "<b>aa bb</b> <i id=\"p\"> </i> ", 1, 1);
        lines("", "<i id=\"p\"/><b>aa bb</b>", 0, 0);
        lines("", "aa <f id=\"p\"/>bb", 1, 1);
        lines("", "aa bb<f id=\"p\"/>", 1, 1);
        lines("", "aa <i id=\"p\"><h>x</h></i>bb", 1, 1);
        lines("", "aa <i id=\"p\"><f/></i>bb", 1, 1);
        lines("", "<k id=\"p\"/>aa", 0, 0);
        lines("", "aa<x id=\"p\"/>", 0, 0);
        press("", "<i id=\"p\"/>");
        Desk.due("without lines", -1, desk.where("p", 3));
        Desk.due("without lines", -1, desk.where("p", 4));
    }

    private static void ends() {
        Desk.about("In an ELEMENT are the bytes of FLOW (but blanks; those of cells in their row) that stand for its text, LABEL, number (NOTE), REFERENCE or rows (contents, index), and for those of ELEMENTS in it; it ends in the line of the last byte in it, else where it begins.");
        lines("", "<b id=\"p\">aa bb cc</b><b>dd</b>", 0, 2);
        lines("", "<b>aa <i id=\"p\">bb cc </i>dd</b>", 1, 2);
        lines("page{width:15000;}", "<b><i id=\"p\">aa-b</i></b>", 0, 1);
        lines("", "aa<i id=\"p\"> <b>bb</b> <b>cc</b> </i>dd", 1, 2);
        lines("d{label:\"LL\";}", "aa <d id=\"p\"/> bb", 1, 1);
        lines("d{label:\"LL MM\";}", "aa <d id=\"p\"/> bb", 1, 2);
        lines("", "aa b<n id=\"p\">xx yy</n> cc", 1, 1);
        lines("", "aa <i id=\"p\">b<n>xx yy</n></i> cc", 1, 1);
        lines("", "aa <e id=\"p\"/> bb", 1, 1);
        lines("d{depth:1;}", "aa<k id=\"p\"/><d>qq</d> <d>ww</d>", 1, 4);
        lines("", "<m>qq</m> <m>ww</m><x id=\"p\"/>", 2, 5);
        lines("page{width:20000;}", "aa<t id=\"p\"><r><c>bb</c></r><r><c>cc</c></r></t>dd", 1, 2);
        lines("page{width:20000;}", "aa<t><r id=\"p\"><c>bb</c></r><r><c>cc</c></r></t>dd", 1, 1);
        lines("page{width:20000;}", "aa<t><r><c>bb</c><c id=\"p\">cc cc</c></r></t>dd", 1, 1);
        lines("page{width:20000;}", "aa<t><r><c id=\"p\"/><c>bb</c></r></t>dd", 1, 1);
        lines("page{width:20000;}", "aa<t><r><c>bb</c><c id=\"p\"/></r></t>dd", 2, 2);
        lines("page{width:20000;}", "aa<t><r id=\"p\"><c/></r></t>dd", 1, 1);
        desk = new Desk("page{width:15000;}b{show:block;hyphens:yes;tolerance:10000;}", "<b>aa<i id=\"p\">bb</i><i id=\"q\"/></b><i id=\"r\"/>");
        desk.hyphens("ends 11 a1b");
        desk.press.set(1);
        Desk.due("a parted WORD", "aa-|bb", desk.texts());
        Desk.due("p begins behind the HYPHEN", 1, desk.where("p", 3));
        Desk.due("q ends in the last line", 1, desk.where("q", 4));
        desk.source("<b><i id=\"p\">aa</i><i id=\"q\">bb</i></b>");
        desk.press.set(1);
        Desk.due("p ends ahead of the HYPHEN", 0, desk.where("p", 4));
    }

    private static void heightOfAColumn() {
        Desk.about("H is the height of page; Lines and their GAPS: these must be within H");
        String three = "<b>aa</b><b>bb</b><b>cc</b>";
        columns("page{height:36000;}", three, "000");
        columns("page{height:35999;}", three, "001");
        columns("page{height:38000;}b{above:1000;}", three, "000");
        columns("page{height:37999;}b{above:1000;}", three, "001");
        columns("page{height:12000;}", three, "012");
        none("page{height:11999;}", three);
        columns("page{height:10000;}*{lead:10000;}", three, "012");
        none("page{height:10000;}*{lead:10001;}", three);
    }

    private static void note(int n, String due) {
        StringBuilder got = new StringBuilder();
        for (int what = 1; what <= 5; what++) {
            got.append(what > 1 ? " " : "").append(desk.press.note(n, what));
        }
        Desk.due("NOTE " + n + ": line, lines, column, lines there, top", due, got.toString());
    }

    private static void oneNote() {
        Desk.about("if NOTES are called in it, or a REST is there: rule; of the last one its first two lines (or its one) at least: these must be within H");
        press("page{height:30000;}", "a<n/>");
        note(0, "0 1 0 1 18000");
        none("page{height:29999;}", "a<n/>");
        press("page{height:24000;rule:0;}", "a<n/>");
        note(0, "0 1 0 1 12000");
        press("page{height:42000;}", "a<n>x</n>");
        note(0, "0 2 0 2 18000");
        none("page{height:41999;}", "a<n>x</n>");
        press("page{height:42000;}", "a<n>x y</n>");
        note(0, "0 3 0 2 18000");
        Desk.due("columns", 2, desk.press.count(4));
        none("page{height:41999;}", "a<n>x y</n>");
        Desk.about("then of the last NOTE (or the REST) as many lines as are. If that is not all: the new REST.");
        press("page{height:53999;}", "a<n>x y</n>");
        note(0, "0 3 0 2 " + (53999 - 24000));
        Desk.due("columns", 2, desk.press.count(4));
        press("page{height:54000;}", "a<n>x y</n>");
        note(0, "0 3 0 3 18000");
        Desk.due("columns", 1, desk.press.count(4));
    }

    private static void severalNotes() {
        Desk.about("all of the REST and of the NOTES called, but of the last one its first two lines (or its one) at least");
        String two = "<b>a<n>x y</n></b><b>b<n/></b>";
        columns("page{height:78000;}", two, "00");
        note(0, "0 3 0 3 30000");
        note(1, "1 1 0 1 66000");
        columns("page{height:77999;}", two, "01");
        note(0, "0 3 0 3 " + (77999 - 36000));
        note(1, "1 1 1 1 " + (77999 - 12000));
        columns("page{height:42000;}", two, "01");
        note(0, "0 3 0 2 18000");
        note(1, "1 1 1 1 30000");
        Desk.due("the REST ahead of the NOTE", "b2|y|2", desk.texts(2));
        none("page{height:42000;}b:last{lead:12001;}", two);
        columns("page{height:78000;}", "<b>a<n/></b><b>b<n>x y</n></b>", "00");
        note(1, "1 3 0 3 42000");
        columns("page{height:77999;}", "<b>a<n/></b><b>b<n>x y</n></b>", "00");
        note(1, "1 3 0 2 " + (77999 - 24000));
        columns("page{height:66000;}", "<b>a<n/></b><b>b<n>x y</n></b>", "00");
        columns("page{height:65999;}", "<b>a<n/></b><b>b<n>x y</n></b>", "01");
    }

    private static void rests() {
        Desk.about("(if none is called: of the REST one line at least)");
        String source = "<b>a<n>x y</n></b><d>bb</d>";
        columns("page{height:42000;}d{show:block;lead:24000;}", source, "01");
        Desk.due("one line of the REST", "2 \n0 0 bb\n30000 0 y\n", desk.page(2));
        none("page{height:42000;}d{show:block;lead:24001;}", source);
        String longer = "<b>a<n>u v w x y</n></b><d>bb</d><d>cc</d>";
        // a1 and two of six lines; bb, cc and one; three alone: all full, and so were bb and two
        columns("page{height:42000;}d{show:block;lead:12000;}", longer, "011");
        Desk.due("one line, as many as are", "a1|1|u||bb|cc|v||w|x|y", desk.texts());
        columns("page{height:42000;}d{show:block;lead:12001;}", longer, "012");
        Desk.due("one each, and the rest alone", "a1|1|u||bb|v||cc|w||x|y", desk.texts());
    }

    private static void aFloat(int f, String due) {
        Desk.due("float " + f + ": line, column, top", due,
                desk.press.note(f, 11) + " " + desk.press.note(f, 12) + " " + desk.press.note(f, 13));
    }

    private static void floatsWait() {
        Desk.about("Then floats WAITING (called in it, too), in order, each as high as it is (at most H), as long as they are within H");
        press("page{height:36000;}f{height:24000;}", "aa<f/>");
        aFloat(0, "0 0 0");
        Desk.due("the line is below", "24000", desk.lines(1));
        press("page{height:36000;}f{height:24001;}", "aa<f/>");
        aFloat(0, "0 1 0");
        Desk.due("the line is at the top", "0", desk.lines(1));
        press("page{height:36000;}f{height:24001;}f:last{height:1000;}", "<b>aa</b><f/><f/>");
        aFloat(0, "0 1 0");
        aFloat(1, "0 1 24001");
        press("page{height:36000;}f{height:1000000;}f:last{height:0;}", "<b>aa</b><f/><f/>");
        aFloat(0, "0 1 0");
        aFloat(1, "0 1 36000");
        press("page{height:36000;}f{height:1000000;}f:last{height:1;}", "<b>aa</b><f/><f/>");
        aFloat(1, "0 2 0");
        press("page{height:12000;}f{height:0;}", "<b>aa</b><f/><f/>");
        aFloat(0, "0 0 0");
        aFloat(1, "0 0 0");
        Desk.due("floats of height 0", "1 \n0 =\n0 =\n0 0 aa\n", desk.page(1));
        press("page{height:36000;}f{height:12000;}", "<b>aa</b><f/><b>bb</b><b>cc</b><b>dd</b>");
        // bb calls it: aa bb and it fill a column
        Desk.due("columns", "0 0 1 1", desk.lines(0));
        aFloat(0, "1 0 0");
        press("page{height:36000;}f{height:30000;}", "<b>aa</b><f/><b>bb</b><b>cc</b><b>dd</b>");
        aFloat(0, "1 " + (desk.press.count(4) - 1) + " 0");
        press("page{height:36000;}f{height:24000;}", "<b>aa</b><b>bb</b><b>c<f/>c</b><b>dd</b>");
        Desk.due("it waits for a column with one line", "0 0 0 1", desk.lines(0));
        aFloat(0, "2 1 0");
    }

    private static void floatsThenNotes() {
        Desk.about("Then floats WAITING ..; then of the last NOTE (or the REST) as many lines as are.");
        press("page{height:48000;rule:0;}f{height:12000;}n{lead:6000;}", "<b>a<n>u v w x y</n><f/></b>");
        note(0, "0 6 0 4 24000");
        aFloat(0, "0 0 0");
        press("page{height:48000;rule:0;}f{height:24000;}n{lead:6000;}", "<b>a<n>u v w x y</n><f/></b>");
        note(0, "0 6 0 2 36000");
        aFloat(0, "0 0 0");
        press("page{height:48000;rule:0;}f{height:24001;}n{lead:6000;}", "<b>a<n>u v w x y</n><f/></b>");
        note(0, "0 6 0 6 12000");
        aFloat(0, "0 1 0");
    }

    private static void costs() {
        Desk.about("COST: (100 * what is left of H / H, rounded down) squared; the column of the last line: 0.");
        // two of 30000 leave 40: 1600; one leaves 70: 4900
        columns("page{height:100000;}*{lead:30000;}", "<b>aa</b><b>bb</b><b>cc</b><b>dd</b>", "0001");
        columns("page{height:100000;}*{lead:30000;first:9;last:9;}", "<b>aa bb</b><b>cc dd</b><b>ee</b>", "00111");
        // unbreakable ones of 4, 3, 3, 4, 1 lines of 10 in a column
        String blocks = "<b>aa aa aa aa</b><b>bb bb bb</b><b>cc cc cc</b><b>dd dd dd dd</b><b>ee</b>";
        columns("page{height:100000;}*{lead:10000;first:9;last:9;}", blocks, "000000000011111");
        columns("page{height:99999;}*{lead:10000;first:9;last:9;}", blocks, "0000000" + "1111111" + "1");
    }

    private static void hyphenAtTheEnd() {
        Desk.about("400 more if the last line ends with a HYPHEN");
        String words = "<b>" + "cccc ".repeat(4) + "aaabbbb cccc</b>";
        for (int lead : new int[] {20000, 19750}) {
            desk = new Desk("page{width:20000;height:100000;}b{show:block;lead:" + lead + ";hyphens:yes;first:1;last:1;tolerance:10000;}", words);
            desk.hyphens("ends 11 a1b");
            desk.press.set(1);
            Desk.due("lines", "cccc|cccc|cccc|cccc|aaa-|bbbb|cccc", desk.texts().replace("||", "|"));
            // four of 20000 leave 20: 400, as dear; four of 19750 leave 21: 441, and five 1
            Desk.due("columns by " + lead, lead == 20000 ? "0 0 0 0 1 1 1" : "0 0 0 0 0 1 1", desk.lines(0));
        }
        desk = new Desk("page{width:20000;height:100000;}b{show:block;lead:20000;first:1;last:1;tolerance:10000;}",
                "<b>" + "cccc ".repeat(4) + "aaa-bbbb cccc</b>").set(1);
        Desk.due("a DASH is none", "0 0 0 0 0 1 1", desk.lines(0));
        // five lines, the last with a HYPHEN, and five; or four, five and one: as dear, but the last column begins later
        desk = new Desk("page{width:20000;height:100000;}b{show:block;lead:20000;hyphens:yes;first:1;last:1;tolerance:10000;}",
                "<b>" + "cccc ".repeat(4) + "aaabbbb" + " cccc".repeat(4) + "</b>");
        desk.hyphens("ends 11 a1b");
        desk.press.set(1);
        Desk.due("400, and no more", "0 0 0 0 0 1 1 1 1 1", desk.lines(0));
        desk = new Desk("page{width:20000;height:100000;}" + Desk.SHOWS + "*{lead:20000;}b{first:1;last:1;}",
                "<b>" + "cccc ".repeat(4) + "</b><t><r><c>dddd</c></r></t><b>cccc cccc</b>");
        desk.press.set(1);
        Desk.due("a row has none", "0 0 0 0 0 1 1", desk.lines(0));
    }

    private static void restAlone() {
        Desk.about("Behind it, as long as a REST or floats are WAITING: columns of these alone: rule and of the REST as many lines as are within H, then floats in order as long as they are; cost 0.");
        press("page{height:42000;}", "a<n>t u v w x y z</n>");
        // two of eight lines with a1; then three in 42000 less 6000; three more
        Desk.due("columns", 3, desk.press.count(4));
        Desk.due("text", "a1|1|t||u|v|w||x|y|z", desk.texts());
        Desk.due("at the foot", "2 \n6000 0 u\n18000 0 v\n30000 0 w\n", desk.page(2));
        press("page{height:42000;rule:6001;}b{lead:11999;}n{lead:12000;}", "<b>a<n>t u v w x y z</n></b>");
        Desk.due("rule and three lines are too much", "a1|1|t||u|v||w|x||y|z", desk.texts());
        press("page{height:42000;}f{height:24000;}", "a<n>t u v w x</n><f/>");
        // six lines: two; three alone; then one with the float
        Desk.due("floats as long as they are", "a1|1|t||u|v|w||=|x", desk.texts());
        press("page{height:42000;}f{height:24001;}", "a<n>t u v w x</n><f/>");
        Desk.due("one that is not within H", "a1|1|t||u|v|w||x||=", desk.texts());
        press("page{height:42000;}f{height:6000;}", "a<n>t u v</n><f/><f/><f/>");
        // with a1 no float has room; rule and two lines of 42000 leave 12000
        Desk.due("two floats of three", "a1|1|t||=|=|u|v||=", desk.texts());
        Desk.due("pages", 3, desk.press.count(3));
    }

    private static void leastLine() {
        Desk.about("Of all rows of columns that of the least cost in all; of several the one whose last column of lines begins with the least line");
        desk = new Desk("page{width:10000;height:1000000;}b{show:block;lead:1000;first:1;last:1;}",
                "<!q \"" + "aa ".repeat(505) + "\"><b>&q;</b><b>&q;</b>");
        desk.press.set(1);
        Desk.due("lines", 1010, desk.press.count(5));
        // 991 lines leave 9000 of 1000000: 0 hundredths
        Desk.due("the last line of the first column", 0, desk.press.line(990, 0));
        Desk.due("the first line of the second", 1, desk.press.line(991, 0));
        thenTheOneBefore();
    }

    /** Behind 1010 lines stand five that fill a column, and one: the two last columns begin with certain lines. */
    private static void thenTheOneBefore() {
        Desk.about("then the one before that, and so on");
        desk = new Desk("page{width:10000;height:1000000;}b{show:block;lead:1000;first:1;last:1;}d{show:block;lead:200000;first:9;last:9;}",
                "<!q \"" + "aa ".repeat(505) + "\"><b>&q;</b><b>&q;</b><d>cc cc cc cc cc</d><b>dd</b>");
        desk.press.set(1);
        // two columns leave 99 hundredths together: 49.9 and 49.1 up to 49.1 and 49.9 are as dear
        int[] lines = {500, 501, 1009, 1010, 1014, 1015};
        int[] due = {0, 1, 1, 2, 2, 3};
        for (int k = 0; k < lines.length; k++) {
            Desk.due("column of line " + lines[k], due[k], desk.press.line(lines[k], 0));
        }
    }

    /** Blocks of so many lines that are not parted, ten lines in a column, and a float; all ways to stand. */
    private static void unparted(String height, String due, int... sizes) {
        StringBuilder source = new StringBuilder();
        for (int k = 0; k < sizes.length; k++) {
            source.append("<b>").append(sizes[k] < 0 ? "<f/>" : "").append("aa ".repeat(Math.abs(sizes[k]))).append("</b>");
        }
        desk = new Desk("page{width:10000;height:100000;}" + Desk.SHOWS + "b{lead:10000;first:9;last:9;}f{height:" + height + ";}", source.toString());
        desk.press.set(1);
        Desk.due("columns", due, desk.lines(0).replace(" ", ""));
    }

    private static void aheadOfTheSameLine() {
        Desk.about("then the one before that, and so on (where floats are placed in different columns)");
        // 5 and the float, 9, 6: 100, 100, 1600; 7, 7, 6 and the float: 900, 900, 0
        unparted("40000", "0000011111111122222233333", -5, 2, 7, 6, 5);
        // 5, 9, 5 and the float: 2500, 100, 900; 7 and the float, 7, 5: 100, 900, 2500
        unparted("20000", "0000011111111122222333333", 5, -2, 7, 5, 6);
    }

    /** All rows of columns of some blocks that are not parted, ten lines in a column, some with a float ahead. */
    private static final class AllRows {
        private final int[] sizes;
        private final int[] floats;
        private int least = -1;
        private String best;

        AllRows(int[] sizes, int[] floats) {
            this.sizes = sizes;
            this.floats = floats;
            go(0, 0, "", 0);
        }

        /** begins tells where the columns begin, the last one first, a sign for each. */
        private void go(int from, int placed, String begins, int cost) {
            if (from == sizes.length) {
                if (least < 0 || cost < least || (cost == least && begins.compareTo(best) < 0)) {
                    least = cost;
                    best = begins;
                }
                return;
            }
            int used = 0;
            for (int to = from; to < sizes.length && used + sizes[to] <= 10; to++) {
                used += sizes[to];
                int full = used;
                int now = placed;
                boolean fitting = true;
                for (int k = placed; k <= to && fitting; k++) {
                    fitting = full + floats[k] <= 10;
                    full += fitting ? floats[k] : 0;
                    now += fitting ? 1 : 0;
                }
                int left = 10 * (10 - full);
                go(to + 1, now, (char) ('A' + from) + begins, cost + (to == sizes.length - 1 ? 0 : left * left));
            }
        }
    }

    private static void allRows() {
        Desk.about("Of all rows of columns that of the least cost in all; of several the one whose last column of lines begins with the least line, then the one before that, and so on.");
        int seed = 3;
        for (int n = 0; n < 300; n++) {
            int[] sizes = new int[5 + n % 6];
            int[] floats = new int[sizes.length];
            StringBuilder source = new StringBuilder();
            StringBuilder style = new StringBuilder();
            for (int k = 0; k < sizes.length; k++) {
                seed = seed * 1103515245 + 12345;
                sizes[k] = 1 + (seed >>> 16) % 6;
                floats[k] = (seed >>> 20) % 3 == 0 ? 1 + (seed >>> 24) % 7 : 0;
                source.append("<b><f z=\"").append(k).append("\"/>").append("aa ".repeat(sizes[k])).append("</b>");
                style.append("f[z=\"").append(k).append("\"]{height:").append(10000 * floats[k]).append(";}");
            }
            desk = new Desk("page{width:10000;height:100000;}" + Desk.SHOWS + "b{lead:10000;first:9;last:9;}" + style, source.toString());
            desk.press.set(1);
            StringBuilder begins = new StringBuilder();
            int line = 0;
            for (int k = 0; k < sizes.length; k++) {
                boolean begin = line == 0 || desk.press.line(line, 0) != desk.press.line(line - 1, 0);
                begins.insert(0, begin ? "" + (char) ('A' + k) : "");
                line += sizes[k];
            }
            Desk.due("columns of " + source + " by " + style, new AllRows(sizes, floats).best, begins.toString());
        }
    }

    private static void noRow() {
        Desk.about("None: Arithmetic.");
        none("page{height:12000;}*{lead:12001;}", "<b>aa</b>");
        none("page{height:24000;}b{first:3;}", "<b>aa bb cc</b>");
        none("page{height:10000;rule:0;}*{lead:5001;}", "<b>a<n/></b>");
        columns("page{height:10000;rule:0;}*{lead:5000;}", "<b>a<n/></b>", "0");
        none("page{height:20000;width:20000;}c{lead:10001;}", "<t><r><c>aaaa aaaa</c></r></t>");
        columns("page{height:20000;width:20000;}c{lead:10000;}", "<t><r><c>aaaa aaaa</c></r></t>", "0");
    }

    private static void pages() {
        Desk.about("PAGES have columns columns each, the last perhaps fewer; they are numbered from 1 on; without lines there are none (then all pages and LINES are 0).");
        for (int columns = 1; columns <= 4; columns++) {
            for (int lines = 1; lines <= 9; lines++) {
                press("page{height:12000;columns:" + columns + ";}", "<b>aa</b>".repeat(lines - 1) + "<b id=\"p\">aa</b>");
                Desk.due("columns", lines, desk.press.count(4));
                Desk.due("pages", (lines + columns - 1) / columns, desk.press.count(3));
                Desk.due("PAGE of the last", (lines + columns - 1) / columns, desk.where("p", 1));
            }
        }
        press("page{height:12000;columns:2;}f{height:12000;}", "<b>aa</b><f/><f/>");
        Desk.due("columns of floats are columns, too", 2, desk.press.count(3));
        press("", "<i id=\"p\"/><f/> <k/>");
        Desk.due("pages without lines", 0, desk.press.count(3));
        Desk.due("columns without lines", 0, desk.press.count(4));
        Desk.due("PAGE", 0, desk.where("p", 1));
        Desk.due("LINE", 0, desk.where("p", 2));
        Desk.dueThrow("page 1", Desk.INDEX, () -> desk.press.print(1));
    }

    private static void places() {
        Desk.about("In a column: floats from the top on, then lines, NOTES at the foot (the last line at H), rule ahead of them.");
        press("page{height:100000;}f{height:10000;}n{lead:7000;}", "<b>a<n>x</n></b><b>b<n/><f/><f/></b>");
        Desk.due("page", "1 \n0 =\n10000 =\n20000 0 a1\n32000 0 b2\n79000 0 1\n86000 0 x\n93000 0 2\n", desk.page(1));
        note(0, "0 2 0 2 79000");
        note(1, "1 1 0 1 93000");
        press("page{height:100000;}", "<b>a<n/></b>");
        note(0, "0 1 0 1 88000");
    }

    private static void numbers() {
        Desk.about("NUMBERS of lines of PARAGRAPHS in FLOW whose count is yes, 1, 2, ..: lines page: anew on each page; all: through all; no: none.");
        String source = "<b>aa bb</b><d>cc</d><b>dd ee</b><b>ff</b>";
        String style = "b{count:yes;first:1;last:1;}d{show:block;}";
        press(style, source);
        Desk.due("without", "0 0 0 0 0 0", desk.lines(3));
        press(style + "page{lines:no;}", source);
        Desk.due("no", "0 0 0 0 0 0", desk.lines(3));
        press(style + "page{lines:all;height:24000;}", source);
        Desk.due("all", "1 2 0 3 4 5", desk.lines(3));
        press(style + "page{lines:page;height:24000;}", source);
        Desk.due("page", "1 2 0 1 1 2", desk.lines(3));
        press(style + "page{lines:page;height:24000;columns:2;}", source);
        Desk.due("page of two columns", "1 2 0 3 1 2", desk.lines(3));
        press(style + "page{lines:all;}i{count:yes;}b{count:no;}", "<b><i>aa</i></b>");
        Desk.due("of the BLOCK", "0", desk.lines(3));
        press("page{lines:all;width:20000;}*{count:yes;}", "<t><r><c>aa</c></r></t><b>bb</b>cc");
        Desk.due("a row has none, nor has ROOT", "0 1 0", desk.lines(3));
        press("page{lines:all;width:20000;}*{count:yes;}d{depth:1;}", "<k/><d>q</d>");
        Desk.due("rows of contents have", "1 0", desk.lines(3));
    }

    private static void heads(String style, String source, String due) {
        press("page{height:12000;}d{show:block;head:yes;}" + style, source);
        StringBuilder got = new StringBuilder();
        for (int n = 1; n <= desk.press.count(3); n++) {
            got.append(desk.page(n).split("\n")[0]).append("|");
        }
        Desk.due("HEADS of " + source, due, got.toString());
    }

    private static void heads() {
        Desk.about("HEAD of a page: TITLE of the first ELEMENT IN FLOW that says head and begins on it, else of the last such on pages before, else empty.");
        heads("", "<b>aa</b><b>bb</b>", "1 |2 |");
        heads("", "<b>aa</b><d>bb</d><b>cc</b>", "1 |2 bb|3 bb|");
        heads("", "<d>aa</d><d>bb</d>", "1 aa|2 bb|");
        heads("i{head:yes;}", "<i>a</i><i>b</i>", "1 a|");
        heads("i{head:yes;}", "<b><i>a</i><i>b</i></b><b>cc</b><b>dd</b>", "1 a|2 b|3 b|");
        heads("", "<d>aa</d><d/><b>bb</b>", "1 aa|2 |");
        heads("h{head:yes;}n{head:yes;lead:1000;}page{height:30000;}", "<b>aa</b><h>x</h><b>bb</b><b>c<n>yy</n></b>", "1 |2 yy|");
        heads("", "<b>aa</b><h><d>x</d></h>", "1 |");
        heads("b{first:1;last:1;}i{head:yes;}", "<b>aa <i>bb cc</i> dd</b>", "1 |2 bb cc|3 bb cc|4 bb cc|");
        heads("", "<b>aa</b><d>" + "xy".repeat(21) + "</d>", "1 |2 " + "xy".repeat(20) + "|");
        heads("f{head:yes;height:12000;}", "<b>aa</b><f/>", "1 |2 |");
    }
}
