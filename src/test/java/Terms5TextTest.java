/** Terms, 5 TEXT: each sentence that names a boundary. */
public final class Terms5TextTest {
    private static Desk desk;

    public static void main(String[] args) {
        root();
        shown();
        tablesThatAreBlocks();
        textThatIsNone();
        counters();
        forms();
        labels();
        notesAreNumbered();
        inFlow();
        countsAsInline();
        paragraphs();
        noteParagraphs();
        cellParagraphs();
        blanks();
        contents();
        index();
        titles();
        entries();
        orderOfEntries();
        pagesOfEntries();
        Desk.close("Terms5TextTest");
    }

    private static void press(String style, String source) {
        desk = new Desk("page{height:1000000;}" + Desk.SHOWS + style, source);
    }

    private static void text(String style, String source, String due) {
        press(style, source);
        desk.press.set(9);
        Desk.due("text of " + source + " by " + style, due, desk.texts());
    }

    private static void root() {
        Desk.about("The ROOT is what all is in that is in no ELEMENT; it has all beginnings, but show block.");
        press("*{size:20000;lead:5000;indent:7;left:7;align:right;tolerance:1;keep:yes;}", "ab x");
        desk.press.set(1);
        Desk.due("whose PARAGRAPH", -1, desk.press.paragraph(0, 6));
        Desk.due("width", 300000, desk.press.paragraph(0, 4));
        Desk.due("tolerance", 200, desk.press.paragraph(0, 3));
        Desk.due("size", 15000, desk.press.spot(0, 1));
        Desk.due("where it begins", 0, desk.press.line(0, 6));
        press("", "a<b>b</b>c");
        desk.press.set(1);
        Desk.due("a BLOCK ends its PARAGRAPH", "-1 0 -1", desk.paragraphs(6));
        Desk.due("lead", "0 12000 24000", desk.lines(1));
        press("", "");
        desk.press.set(1);
        Desk.due("nothing", 0, desk.press.count(6));
    }

    private static void shown() {
        Desk.about("SHOWN is an ELEMENT if neither it nor one that it is in shows none, and it is in no contents, index, float or ref");
        press("", "<i/><h/><h><i/><b/></h><i><i><h><i/></h></i></i>");
        Desk.due("none", "1 0 0 0 0 1 1 0 0", desk.elements(4));
        press("", "<k><i/></k><x><i><i/></i></x><f><b/></f><e><n/></e><n><i/></n><m><i/></m>");
        Desk.due("contents, index, float, ref; not note, term", "1 0 1 0 0 1 0 1 0 1 1 1 1", desk.elements(4));
        press("i{show:none;}i:first{show:inline;}", "<i/><i/>");
        Desk.due("by the STYLE", "1 0", desk.elements(4));
        text("", "a<h>b<i>c</i></h>d<k>e</k>", "ad");
        text("", "a<x>b</x><f>c</f><e>d</e>", "=|a|??");
    }

    private static void tablesThatAreBlocks() {
        Desk.about("in a table that is a BLOCK only ELEMENTS directly in it that show row, in these only those directly in them that show cell");
        press("", "<t><r><c><i/><r/><c/></c><i/><r/></r><c/><i><r/></i><b/><n/><h/></t>");
        // 0 t, 1 r, 2 c, 3 i, 4 r, 5 c, 6 i, 7 r, 8 c, 9 i, 10 r, 11 b, 12 n, 13 h
        Desk.due("SHOWN", "1 1 1 1 1 1 0 0 0 0 0 0 0 0", desk.elements(4));
        Desk.due("IN FLOW", "1 1 1 0 0 0 0 0 0 0 0 0 0 0", desk.elements(7));
        press("", "<i><t><r><c/></r></t></i><b><t><r/></t></b>");
        Desk.due("a table in an inline one is a BLOCK, too", "1 1 1 1 1 1 1", desk.elements(4));
        press("", "<n><t><i/><r><i/></r></t></n><t><r><c><t><b/></t></c></r></t>");
        Desk.due("in a NOTE or cell it is none", "1 1 1 1 1 1 1 1 1 1", desk.elements(4));
        Desk.about("at most 8 columns (cells beyond the eighth of a row are not SHOWN)");
        press("", "<t><r>" + "<c>x</c>".repeat(9) + "</r><r>" + "<c/><i/>".repeat(8) + "<c/></r></t>");
        Desk.due("cells", "1 1 " + "1 ".repeat(8) + "0 1 " + "1 0 ".repeat(8) + "0", desk.elements(4));
        text("", "<t><r><c>1</c><c>2</c><c>3</c><c>4</c><c>5</c><c>6</c><c>7</c><c>8</c><c>9</c></r></t>", "1|2|3|4|5|6|7|8");
    }

    private static void textThatIsNone() {
        Desk.about("Text directly in contents, index, float, ref, such tables and such rows is none.");
        text("", "<k>a</k><x>b</x><f>c</f><t>d<r>e<c>f</c>g</r>h</t>i<e>j</e>", "=|f|i??");
        text("", "<t>a</t><t>a<r>b</r></t>", "");
        text("", "<n><t>a<r>b<c>c</c></r></t></n>", "1|1 abc");
        text("", "a<r>b<c>d</c></r>e<c>f</c>", "abdef");
        text("", "<!q \"zz\"><t>&q;<r>&lt;<c>x</c></r></t>", "x");
    }

    private static void counters() {
        Desk.about("COUNTERS (0 at first): by SHOWN ELEMENTS in order, of each first reset (the COUNTER is 0), then step (it is one more); its VALUE: that of its step's COUNTER then, 0 without.");
        press("a{step:p;}d{reset:p;}g{step:p;reset:p;}j{step:q;reset:p;}l{step:p;reset:q;}",
                "<a/><a/><d/><a/><g/><g/><a/><j/><a/><j/><l/><j/><i/><h><a/></h><a/>");
        Desk.due("VALUES", "1 2 0 1 1 1 2 1 1 2 1 1 0 0 0 1", desk.elements(5));
        press("a{step:p;}", "<a><a/><k><a/></k><n><a/></n><t><r><c><a/></c><a/></r></t></a>");
        // 0 a, 1 a, 2 k, 3 a hidden, 4 n, 5 a, 6 t, 7 r, 8 c, 9 a, 10 a hidden
        Desk.due("in NOTES and cells, too", "1 2 0 0 0 3 0 0 0 4 0", desk.elements(5));
        press("f{step:p;}e{step:p;}k{step:p;}x{step:p;}n{step:p;}t{step:p;}r{step:p;}", "<f/><e/><k/><x/><n/><t><r/></t>");
        Desk.due("of all that are SHOWN", "1 2 3 4 5 6 7", desk.elements(5));
        press("a{step:p;}", "<a/>".repeat(500));
        Desk.due("500", 500, desk.press.element(499, 5));
        desk.style("a{reset:p;}");
        Desk.due("reset alone has no VALUE", 0, desk.press.element(499, 5));
        press("a{step:p;}", "<a/><a/>");
        Desk.due("VALUES", "1 2", desk.elements(5));
        desk.style("a{step:p;}");
        Desk.due("VALUES by a STYLE anew", "1 2", desk.elements(5));
    }

    /** The LABEL of an ELEMENT with that VALUE. */
    private static void form(String form, int value, String due) {
        StringBuilder source = new StringBuilder();
        for (int k = 1; k < value; k++) {
            source.append("<a/>");
        }
        text("a{step:p;}d{form:" + form + ";label:\"#\";" + (value > 0 ? "step:p;" : "") + "}", source + "<d/>", due);
    }

    private static void forms() {
        Desk.about("FORMS: arabic: digits; roman: i v x l c d m, 1 .. 3999; letter: a .. z, aa, ab, .. from 1 on; else digits.");
        form("arabic", 0, "0");
        form("arabic", 9, "9");
        form("arabic", 10, "10");
        form("arabic", 500, "500");
        longNumber();
        form("roman", 0, "0");
        String[] romans = {"1 i", "3 iii", "4 iv", "5 v", "9 ix", "10 x", "40 xl", "49 xlix", "50 l", "88 lxxxviii", "90 xc", "99 xcix", "100 c",
            "388 ccclxxxviii", "400 cd", "444 cdxliv", "499 cdxcix", "500 d"};
        for (String roman : romans) {
            form("roman", Integer.parseInt(roman.split(" ")[0]), roman.split(" ")[1]);
        }
        form("letter", 0, "0");
        String[] letters = {"1 a", "25 y", "26 z", "27 aa", "28 ab", "52 az", "53 ba", "78 bz", "79 ca", "500 sf"};
        for (String letter : letters) {
            form("letter", Integer.parseInt(letter.split(" ")[0]), letter.split(" ")[1]);
        }
    }

    private static void longNumber() {
        desk = new Desk("page{width:20000;height:1000000;lines:all;}" + Desk.SHOWS + "b{lead:1000;count:yes;}d{show:block;}",
                "<!q \"" + "aaaa ".repeat(411) + "\"><b>&q;</b><b>&q;</b><b>&q;</b><b id=\"p\">x</b><d><e to=\"p\" as=\"line\"/></d>");
        desk.press.set(9);
        Desk.due("four digits", "1234", desk.texts().substring(desk.texts().length() - 4));
    }

    private static void labels() {
        Desk.about("LABEL: that STRING, with its VALUE in its form for each #; it stands ahead of the ELEMENT's text, in its size (not of contents, index, float, ref, of tables that are BLOCKS, rows in their PLACE).");
        text("a{label:\"#-#\";step:p;}", "<a>x</a><a/>", "1-1x2-2");
        text("a{label:\"\";}", "<a>x</a>", "x");
        text("a{label:\"#\";}", "<a>x</a>", "0x");
        text("a{label:\"L\";}d{label:none;}", "<a>x<d>y</d></a>", "Lxy");
        text("*{label:\"L\";}", "<k/><x/><f/><e/><t><r/></t>", "=|??");
        text("*{label:\"L\";}", "<t><r><c/></r></t>", "L");
        text("*{label:\"L\";}", "<h/><b/><i/><m/>", "L|LL");
        text("*{label:\"L\";}", "<r/><c/><n><t/><r/><c/><k/><x/><f/></n>", "LL1|1 LLLL");
        text("b{label:\" # \";}", "<b>x</b>", "0 x");
        press("a{label:\"aa \";size:20000;}", "<a>b</a>");
        Desk.due("in its size", 20000 + 10000, desk.set(1).press.spot(0, 1));
    }

    private static void notesAreNumbered() {
        Desk.about("NOTES are SHOWN ELEMENTS that show note, in no NOTE and no cell in its PLACE; they are numbered from 1 on: the digits of the number stand where they are, in the size of the ELEMENT they are in.");
        text("", "a<n>x</n>b<h><n/></h><n>y<n>z</n></n><t><r><c>q<n>w</n></c></r></t>", "a1b2|qw|1 x|2 yz");
        Desk.due("NOTES", 2, desk.press.count(7));
        text("", "<c>q<n>w</n></c>", "q1|1 w");
        text("", "<n/>".repeat(10), "12345678910|1|2|3|4|5|6|7|8|9|10");
        press("n{size:50000;}i{size:20000;}", "<i>a<n/></i> b");
        Desk.due("in the size of the ELEMENT they are in", 10000 + 10000 + 5000, desk.set(1).press.spot(0, 1));
        press("n{size:50000;}", "a<n/> b");
        Desk.due("in the size of the ROOT", 15000, desk.set(1).press.spot(0, 1));
    }

    private static void inFlow() {
        Desk.about("IN FLOW is an ELEMENT that is SHOWN and in no NOTE and no cell in its PLACE.");
        press("", "<n><i><b/></i></n><t><r><c><i><i/></i></c></r></t><c><i/></c><r><i/></r><h/><k><i/></k><f/><e/><m/>");
        Desk.due("IN FLOW", "1 0 0 1 1 1 0 0 1 1 1 1 0 1 0 1 1 1", desk.elements(7));
    }

    private static void countsAsInline() {
        Desk.about("In NOTES and cells in their PLACE what shows block, note, table, row, cell, term counts as inline, contents, index, floats are nothing; IN FLOW so do terms, and rows and cells that are not in their PLACE.");
        text("", "<n>a<b>b</b><n>c</n><t>d<r>e<c>f</c></r></t><m>g</m><k>h</k><x>i</x><f>j</f></n>", "1|1 abcdefg");
        Desk.due("floats", 0, desk.press.count(8));
        Desk.due("ENTRIES", 0, desk.press.count(9));
        Desk.due("PARAGRAPHS", 2, desk.press.count(6));
        text("", "<t><r><c>a<b>b</b><n>c</n><t>d<r>e<c>f</c></r></t><m>g</m><k>h</k><x>i</x><f>j</f></c></r></t>", "abcdefg");
        Desk.due("floats", 0, desk.press.count(8));
        Desk.due("ENTRIES", 0, desk.press.count(9));
        Desk.due("NOTES", 0, desk.press.count(7));
        text("", "<m>a</m><r>b</r><c>d</c>", "abd");
        Desk.due("whose PARAGRAPH", -1, desk.press.paragraph(0, 6));
        text("", "<n>a<e/><h>b</h></n>", "1|1 a??");
    }

    private static void paragraphs() {
        Desk.about("A PARAGRAPH is what stands in a BLOCK (in no other one in it) between two beginnings or ends of BLOCKS, if there is a byte but blanks");
        text("", " \n ", "");
        text("", "<b> </b>", "");
        text("", " <b> \n </b> <b><b> </b></b> ", "");
        Desk.due("PARAGRAPHS", 0, desk.press.count(6));
        text("", "a<b/>b", "a|b");
        text("", "a<b>b<b>c</b>d</b>e", "a|b|c|d|e");
        Desk.due("whose they are", "-1 0 1 0 -1", desk.paragraphs(6));
        text("", "a<i>b<b>c</b>d</i>e", "ab|c|de");
        Desk.due("whose they are", "-1 1 -1", desk.paragraphs(6));
        text("", "<b><i>b<b>c</b>d</i>e</b>", "b|c|de");
        Desk.due("whose they are", "0 2 0", desk.paragraphs(6));
        text("", "a<k/>b<x/>c<t/>d", "a|b|c|d");
        text("", "a<f/>b<h>c</h>d", "=|abd");
        text("b{label:\"L\";}", "<b> </b><b/>", "L|L");
        text("", "a<b> <i> </i><n/> </b>", "a|1|1");
        Desk.due("bytes", "1 1 1", desk.paragraphs(5));
    }

    private static void noteParagraphs() {
        Desk.about("in a NOTE: its number, a blank, if it has a FIELD of: the LINES of that ID and a blank, then LABEL and text");
        text("", "<n/>", "1|1");
        text("", "<n> </n>", "1|1");
        press("n{size:20000;align:right;label:\"L\";}i{size:5000;}", "a<n>x<i>y</i></n>");
        // number, blank, LABEL and x in the NOTE's size
        Desk.due("in its size", "1 \n0 0 a1\n988000 " + (300000 - 4 * 10000 - 2500) + " 1 Lxy\n", desk.set(1).page(1));
        text("", "<n>x</n>", "1|1 x");
        text("n{label:\" L\";}", "<n> x</n>", "1|1 L x");
        text("", "<n of=\"p\"/>", "1|1 ??");
        text("", "<n of=\"p\">x</n>", "1|1 ?? x");
        text("", "<n of=\"\">x</n>", "1|1 ?? x");
        text("", "<n off=\"p\">x</n>", "1|1 x");
        text("", "<i id=\"p\">q</i><n of=\"p\">x</n>", "q1|1 0 x");
        text("", "<h id=\"p\">q</h><n of=\"p\">x</n>", "1|1 ?? x");
        text("", "<n id=\"p\"><i id=\"q\"/></n><n of=\"q\"/><n of=\"p\"/>", "123|1|2 ??|3 0");
        text("page{lines:all;}b{count:yes;}", "<b>q<i id=\"p\">r</i></b><n of=\"p\">x</n>", "qr|1|1 1 x");
        press("page{width:15000;lines:all;}b{count:yes;}", "<b id=\"p\">aa bb</b><n of=\"p\">x</n>");
        desk.press.set(9);
        Desk.due("LINES", "aa|bb|1|1|1-2|x", desk.texts());
    }

    private static void cellParagraphs() {
        Desk.about("in a cell LABEL and text");
        text("c{label:\"L\";}", "<t><r><c/><c>x</c></r></t>", "L|Lx");
        text("", "<t><r><c> </c><c>x</c><c/></r></t>", "x");
        Desk.due("whose PARAGRAPH", "3", desk.paragraphs(6));
        text("", "<t><r><c>a<b>b</b>c</c></r></t>", "abc");
        Desk.due("one PARAGRAPH", 1, desk.press.count(6));
    }

    private static void blanks() {
        Desk.about("Blanks (10, 32) side by side are one, of the size of the first; none stands at an end.");
        text("", " \n a \n\n b \n ", "a b");
        Desk.due("bytes", 3, desk.press.paragraph(0, 5));
        text("", "<i> </i>a<i> </i> <i> </i>b<i> </i>", "a b");
        text("", "a <f/> <h>x</h> b", "=|a b");
        text("", "<!q \" \">a&q;&q; b&q;", "a b");
        text("", "a <b> b </b> c ", "a|b|c");
        press("s{size:20000;}", "a<s> </s> b");
        Desk.due("the size of the first", 5000 + 10000, desk.set(1).press.spot(0, 1));
        press("s{size:20000;}", "a <s> </s>b");
        Desk.due("the size of the first", 5000 + 5000, desk.set(1).press.spot(0, 1));
        press("s{size:20000;}", "<b><s> </s>a b</b>");
        Desk.due("none ahead", 5000 + 5000, desk.set(1).press.spot(0, 1));
        Desk.due("where it begins", 0, desk.press.spot(0, 0));
    }

    private static void contents() {
        Desk.about("a row for each ELEMENT IN FLOW with a depth above 0, in order: its TITLE, a blank, its PAGE. They have the properties of the contents; depth d moves left 10000 * (d - 1) more.");
        text("a{depth:1;}d{depth:9;}g{depth:0;}", "<k/><a>One</a> <d>Two</d> <g>no</g><n><a>no</a></n><h><a>no</a></h><a/>",
                "One 1|Two 1|1|One Two no1|1 no");
        Desk.due("depth 1, 9, 1", "0 80000 0 0", desk.lines(6));
        Desk.due("widths", "300000 220000 300000 300000 300000", desk.paragraphs(4));
        Desk.due("whose they are", "0 0 0 -1 4", desk.paragraphs(6));
        press("k{left:290000;right:9001;size:20000;lead:7000;align:right;}a{depth:2;}d{depth:1;}", "<k/><a>q</a><d>w</d>");
        desk.press.set(9);
        Desk.due("widths at least 1000", "1000 1000 300000", desk.paragraphs(4));
        Desk.due("lead of the contents", "0 7000 14000", desk.lines(1));
        text("k{depth:1;}a{depth:1;}", "<a>x</a><k/>", "x|x 1|1");
        text("k{depth:1;}", "<k/>", "1");
        text("a{depth:1;}c{depth:2;}", "<k/><t><r><c>x<a>y</a></c></r></t>", "xy 1|xy");
        text("", "<k/>x", "x");
    }

    private static void index() {
        Desk.about("a row for each ENTRY: it, and for each of its pages , and a blank and the page");
        text("", "<m>b</m><m>a</m><x/>", "ba|a, 1|b, 1");
        text("", "<m at=\"  p  q \"/>z<x/>", "z|p q , 1");
        text("", "<m at=\" \"/>z<x/>", "z|, 1");
        text("", "z<x/>", "z");
        Desk.about("They have the properties of the contents, index");
        press("x{left:7;size:20000;indent:5;}", "<m>b</m><x/>");
        desk.press.set(9);
        Desk.due("where it begins", "0 12", desk.lines(6));
        Desk.due("size", 12 + 20000 + 10000, desk.press.spot(1, 1));
        press("m{size:30000;}", "<m>b</m><x/><k/>");
        desk.press.set(9);
        Desk.due("not the term's size", 15000, desk.press.spot(1, 1));
    }

    private static void title(String style, String source, int due) {
        press(style, source);
        Desk.due("bytes of the TITLE of " + source, due, desk.press.element(0, 6));
    }

    private static void titles() {
        Desk.about("TITLE of a SHOWN ELEMENT (empty of others): its LABEL and text and those of SHOWN ELEMENTS in it, in order, without what shows note in it and all that is in that");
        title("", "<i>ab</i>", 2);
        title("", "<i/>", 0);
        title("", "<h>ab</h>", 0);
        title("", "<i>a<h>b</h><i>c</i></i>", 2);
        title("", "<i>a<n>b<i>c</i></n>d</i>", 2);
        title("", "<n>a<n>b</n>c</n>", 2);
        title("i{label:\"#.\";step:p;}", "<i>a<i>b</i></i>", 6);
        title("", "<k>ab</k>", 0);
        title("", "<i>a<e>b</e><f>c</f><k>d</k><x>e</x></i>", 1);
        title("", "<t>a<r>b<c>cd</c>e<i>f</i></r></t>", 2);
        title("", "<b>a<b>b</b>c</b>", 3);
        title("", "<i>&lt;<!q \"xyz\">&q;&q;</i>", 7);
        Desk.about("blanks as told, the first 40 bytes of that, no blank at the end");
        title("", "<i> a \n b </i>", 3);
        title("", "<i> <i> </i></i>", 0);
        title("", "<i>" + "x".repeat(39) + "</i>", 39);
        title("", "<i>" + "x".repeat(40) + "</i>", 40);
        title("", "<i>" + "x".repeat(41) + "</i>", 40);
        title("", "<i>" + "x".repeat(39) + " y</i>", 39);
        title("", "<i>" + "x".repeat(38) + " y</i>", 40);
        title("", "<i>" + "x".repeat(40) + " y</i>", 40);
        title("", "<!q \"" + "x".repeat(41) + "\"><i>&q;</i>", 40);
        title("i{label:\"" + "x".repeat(41) + "\";}", "<i/>", 40);
        title("i{label:\"" + "x".repeat(39) + "##\";}", "<i/>", 40);
        text("b{head:yes;}e{size:1000;}", "<e to=\"p\" as=\"title\"/><b id=\"p\">" + "xy ".repeat(20) + "</b>",
                "xy ".repeat(12) + "xy x|" + "xy ".repeat(19) + "xy");
    }

    private static void entries() {
        Desk.about("ENTRY: the STRING of FIELD at of a term IN FLOW, or its TITLE without one; not the empty one. Terms of the same ENTRY are one");
        text("", "<m at=\"p\">a</m><m>b</m><m at=\"\">d</m><m/><m> </m><n><m>no</m></n><h><m>no</m></h><i at=\"no\"/><x/>", "abd 1|b, 1|p, 1|1 no");
        Desk.due("ENTRIES", 2, desk.press.count(9));
        text("", "<m>a</m><m at=\"a\"/><m>a</m> <m>A</m><x/>", "aa A|A, 1|a, 1");
        Desk.due("ENTRIES", 2, desk.press.count(9));
        text("", "<m>" + "x".repeat(41) + "</m> <m at=\"" + "x".repeat(41) + "\"/><m at=\"" + "x".repeat(40) + "\"/><x/>",
                "x".repeat(41) + "|" + "x".repeat(40) + ", 1|" + "x".repeat(41) + ", 1");
        text("", "<t><r><c><m>no</m></c></r></t><x/>", "no");
        text("", "<t><r><c>z</c></r></t><i><m>yes</m></i><x/>", "z|yes|yes, 1");
    }

    private static void orderOfEntries() {
        Desk.about("ENTRIES are ordered by bytes, A .. Z as a .. z, a beginning ahead of what is longer; those the same so: by the bytes.");
        text("", "<m at=\"ab\"/><m at=\"a\"/><m at=\"B\"/><m at=\"aB\"/><m at=\"A\"/><m at=\"AB\"/><m at=\"abc\"/><m at=\"Ab\"/><m at=\"1\"/><m at=\"_\"/>"
                + "<m at=\"~\"/><m at=\" \"/><m at=\"[\"/>z<x/>",
                "z|, 1|1, 1|[, 1|_, 1|A, 1|a, 1|AB, 1|Ab, 1|aB, 1|ab, 1|abc, 1|B, 1|~, 1");
        text("", "<m at=\"a b\"/><m at=\"a!\"/><m at=\"a\"/>z<x/>", "z|a, 1|a b, 1|a!, 1");
    }

    /** Terms of one ENTRY on these pages; all other pages have none. */
    private static void pages(String pages, String due) {
        StringBuilder source = new StringBuilder();
        for (int n = 1; n <= 12; n++) {
            source.append("<b>z");
            for (String page : pages.split(" ")) {
                source.append(page.equals("" + n) ? "<m at=\"q\"/>" : "");
            }
            source.append("y</b>");
        }
        desk = new Desk("page{height:12000;}" + Desk.SHOWS, source + "<x/>");
        desk.press.set(9);
        Desk.due("terms on " + pages, "q, " + due, desk.texts(13));
    }

    private static void pagesOfEntries() {
        Desk.about("with all their pages, each once, rising; of three or more pages one behind the other: first - last (as 3-5)");
        pages("1", "1");
        pages("1 1", "1");
        pages("1 2", "1, 2");
        pages("1 2 3", "1-3");
        pages("3 4 5", "3-5");
        pages("1 3", "1, 3");
        pages("1 2 4 5", "1, 2, 4, 5");
        pages("1 2 3 5 6 7 8", "1-3, 5-8");
        pages("1 2 3 5", "1-3, 5");
        pages("1 3 4 5", "1, 3-5");
        pages("1 1 2 2 3 3", "1-3");
        pages("8 9 10 11 12", "8-12");
        pages("9 10", "9, 10");
        pages("12", "12");
    }
}
