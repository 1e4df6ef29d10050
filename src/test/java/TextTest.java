/** Promises 11, 12, 15, 17, 19, 20: what is SHOWN, and the text that stands for it. */
public final class TextTest {
    private static Desk desk;

    public static void main(String[] args) {
        shown();
        tables();
        values();
        titles();
        paragraphs();
        notes();
        cells();
        contents();
        index();
        references();
        wavering();
        where();
        heads();
        numbers();
        Desk.close("TextTest");
    }

    private static final String SHOWS = "n{show:none;}o{show:note;}f{show:float;}t{show:table;}r{show:row;}l{show:cell;}"
            + "c{show:contents;}x{show:index;}e{show:ref;}m{show:term;}b{show:block;}";

    private static void press(String style, String source) {
        desk = new Desk();
        desk.style("page{width:300000;height:1000000;}" + style);
        desk.source(source);
    }

    /** One answer for each ELEMENT. */
    private static void all(String call, int what, String due) {
        StringBuilder got = new StringBuilder();
        for (int e = 0; e < desk.press.count(0); e++) {
            got.append(desk.press.element(e, what)).append(' ');
        }
        Desk.due(call + "\n", due + "\n", got.toString().trim() + "\n");
    }

    /** The texts of page 1, without where they stand. */
    private static void text(String call, String due) {
        desk.press.set(9);
        StringBuilder got = new StringBuilder();
        String[] lines = desk.press.count(3) == 0 ? new String[0] : desk.page(1).split("\n");
        for (int k = 1; k < lines.length; k++) {
            got.append(k > 1 ? "|" : "").append(lines[k].replaceFirst("^-?\\d+ (\\d+ )?", ""));
        }
        Desk.due(call + "\n", due + "\n", got + "\n");
    }

    private static void shown() {
        press(SHOWS, "<n><a/></n><c><a/></c><x><a/></x><f><a/></f><e><a><a/></a></e><o><a/></o><a><b/></a>");
        all("SHOWN", 4, "0 0 1 0 1 0 1 0 1 0 0 1 1 1 1");
        all("IN FLOW", 7, "0 0 1 0 1 0 1 0 1 0 0 1 0 1 1");
        press(SHOWS, "<o><c><a/></c><f/><o/><b/></o>");
        all("SHOWN in a NOTE", 4, "1 1 0 1 1 1");
        all("IN FLOW in a NOTE", 7, "1 0 0 0 0 0");
        press(SHOWS, "a<n>b</n>c<f>d</f>e<b>f<c>g</c>h</b>");
        text("what is SHOWN", "=|ace|f|h");
    }

    private static void tables() {
        press(SHOWS, "<t><r><l><a/><r/></l><a/><l/></r><l/><a><r/></a></t><r><l/></r>");
        all("SHOWN in a table", 4, "1 1 1 1 1 0 1 0 0 0 1 1");
        all("IN FLOW in a table", 7, "1 1 1 0 0 0 1 0 0 0 1 1");
        press(SHOWS, "<t><r>" + "<l>x</l>".repeat(7) + "<n/>" + "<l>y</l>".repeat(2) + "</r></t>");
        all("at most 8 cells", 4, "1 1 1 1 1 1 1 1 1 0 1 0");
        press(SHOWS, "<o><t>q<r>w<a/><l>e</l></r></t></o>");
        all("a table in a NOTE is inline", 4, "1 1 1 1 1");
        text("and so is what is in it", "1|1 qwe");
        press(SHOWS, "a<t>b<r>c<l>d</l>e</r>f</t>g<r>h<l>i</l></r>");
        text("rows and cells out of their PLACE are inline", "a|d|ghi");
    }

    private static void values() {
        press(SHOWS + "a{step:p;}b{step:q;reset:p;}d{reset:q;}g{step:p;reset:p;}",
                "<a/><a/><n><a/></n><b><a/></b><a/><b/><a/><d><b/></d><g/><g/><h/>");
        all("VALUES", 5, "1 2 0 0 1 1 2 2 1 0 1 1 1 0");
        press("page{width:1000000;}*{size:1000;}a{step:p;label:\"#.#\";form:roman;}b{step:p;label:\"#\";form:letter;}d{label:\"[#]\";form:roman;}",
                "<a/> ".repeat(44) + "<b/> <b/> " + "<d/> <b>x</b>");
        text("FORMS", roman());
        press("a{step:p;label:\"#\";form:roman;size:1000;}page{width:1000000;}", "<a/>".repeat(499) + " <a/>");
        desk.press.set(1);
        Desk.due("roman 500\n", " d\n", desk.page(1).substring(desk.page(1).length() - 3));
        press("a{step:p;}b{step:p;label:\"#\";form:letter;}", "<a/>".repeat(25) + "<b/> <b/>" + "<a/>".repeat(25) + " <b/>");
        text("letters", "z aa ba");
    }

    private static String roman() {
        String[] tens = {"", "x", "xx", "xxx", "xl"};
        String[] ones = {"", "i", "ii", "iii", "iv", "v", "vi", "vii", "viii", "ix"};
        StringBuilder due = new StringBuilder();
        for (int k = 1; k <= 44; k++) {
            String word = tens[k / 10] + ones[k % 10];
            due.append(word).append('.').append(word).append(' ');
        }
        return due + "as at [0] aux";
    }

    private static void titles() {
        press(SHOWS + "h{step:p;label:\"# \";}k{label:\"  K\";}", "<h> a \n b<o>q</o><k>c<n>z</n></k><b>d</b> &lt; </h>"
                + "<n>x</n><a>" + "y".repeat(39) + " z</a><a>" + "y".repeat(41) + "</a><o>q<o>r</o>s</o><c>q</c>"
                + "<t>x<r>y<l>z</l> <l>w</l></r></t><e/>");
        desk.press.set(1);
        // h: "1 a b Kcd <"; o: "q", k: "Kc", d: "d", ..
        all("bytes of TITLES", 6, "11 1 2 0 1 0 39 40 2 1 0 2 2 1 1 0");
    }

    private static void paragraphs() {
        press(SHOWS + "s{size:50%;}", " \n ");
        text("blanks alone are none", "");
        press(SHOWS, "a<b>b</b>c<b> </b>d<i>e<b>f</b>g</i>h");
        text("PARAGRAPHS", "a|b|c|de|f|gh");
        long[] owners = {-1, 0, -1, -1, 3, -1};
        for (int p = 0; p < 6; p++) {
            Desk.due("whose PARAGRAPH " + p, owners[p], desk.press.paragraph(p, 6));
        }
        press(SHOWS, " a \n\n<i> b</i> <n>x</n> c <f/> ");
        text("blanks", "=|a b c");
        Desk.due("bytes", 5, desk.press.paragraph(0, 5));
        press(SHOWS, "<b>x<i><b>y</b>z</i></b><b>w</b>v");
        text("PARAGRAPHS in BLOCKS in one another", "x|y|z|w|v");
        int[] around = {0, 2, 0, 3, -1};
        for (int p = 0; p < 5; p++) {
            Desk.due("whose PARAGRAPH " + p, around[p], desk.press.paragraph(p, 6));
        }
        press(SHOWS + "b{label:\"L\";}", "<b><b>x</b></b>");
        text("a LABEL alone", "L|Lx");
    }

    private static void notes() {
        press(SHOWS + "o{label:\"(\";}", "a<o> b<o>c</o><b>d</b><f/><c/> </o> e<o/>");
        text("NOTES", "a1 e2|1 ( b(cd|2 (");
        Desk.due("NOTES", 2, desk.press.count(7));
        Desk.due("floats in NOTES are nothing", 0, desk.press.count(8));
        Desk.due("PARAGRAPHS", 3, desk.press.count(6));
        Desk.due("whose PARAGRAPH", 0, desk.press.paragraph(1, 6));
        press(SHOWS + "page{lines:all;}b{count:yes;}", "<b id=\"p\">x</b><b>y<o of=\"p\">b</o><o of=\"q\">c</o><o of=\"r\"/></b><n id=\"r\"/>");
        text("NOTES with LINES", "x|y123|1 1 b|2 ?? c|3 ??");
        press(SHOWS, "<o of=\"\">b</o>");
        text("of is the first FIELD", "1|1 ?? b");
        press(SHOWS + "o{size:20000;}s{size:5000;}", "");
        desk.source("<s>a<o>b</o> c</s>");
        desk.press.set(1);
        Desk.due("the number has the size of the ELEMENT that the NOTE is in", 7500, desk.press.spot(0, 1));
    }

    private static void cells() {
        press(SHOWS + "l{label:\"#\";step:p;}r{label:\"R\";}t{label:\"T\";}",
                "<t><r><l>a<o>b</o></l><l><b>c</b><c/></l></r><r><l/></r></t>");
        desk.style("page{width:300000;}" + SHOWS + "l{label:\"#\";}t{label:\"T\";}r{label:\"R\";}");
        text("cells", "0ab|0c|0");
        Desk.due("NOTES in cells are none", 0, desk.press.count(7));
        desk.style("page{width:300000;}" + SHOWS);
        text("a row without text is none", "ab|c");
        Desk.due("lines", 1, desk.press.count(5));
        Desk.due("PARAGRAPHS", 2, desk.press.count(6));
        Desk.due("whose PARAGRAPH", 4, desk.press.paragraph(1, 6));
    }

    private static void contents() {
        press(SHOWS + "h{show:block;depth:1;step:p;label:\"#.\";}k{depth:3;}c{left:1000;}",
                "<c>x</c><h>One</h><b>q<k>Two</k></b><h/><o><k>no</k></o><n><k>no</k></n><c/>");
        text("contents", "1.One 1|Two 1|2. 1|1.One|qTwo|2.|1|1.One 1|Two 1|2. 1|1 no");
        Desk.due("depth moves left", 1000, desk.press.line(0, 6));
        Desk.due("by 10000 each", 21000, desk.press.line(1, 6));
        Desk.due("and the width", 300000 - 21000, desk.press.paragraph(1, 4));
        Desk.due("whose PARAGRAPH", 0, desk.press.paragraph(1, 6));
    }

    private static void index() {
        press(SHOWS, "<x>q</x><m>b</m> <m>B</m> <m at=\"a\"/><m at=\"A b\">z</m><m at=\"\">z</m><m/><m>b</m><m>ba</m><o><m>no</m></o>"
                + "<m at=\"A&lt;\"/><m at=\"a-\"/>");
        text("index", "a, 1|A b, 1|A&lt;, 1|a-, 1|B, 1|b, 1|ba, 1|b B zzbba1|1 no");
        Desk.due("ENTRIES", 7, desk.press.count(9));
        press(SHOWS + "page{height:12000;}b{show:block;}", "<b><m>a</m></b>".repeat(2) + "<b><m at=\"b\"/>z</b><b><m>a</m></b><b><m>a</m><m>a</m></b>"
                + "<b><m at=\"b\"/>z</b><b><m>a</m></b><b><m at=\"b\"/>z</b><b><m at=\"b\"/>z</b><x/>");
        desk.press.set(9);
        Desk.due("pages", "10 \n0 0 a, 1, 2, 4, 5, 7\n", desk.page(10));
        Desk.due("three pages one behind the other", "11 \n0 0 b, 3, 6, 8, 9\n", desk.page(11));
        desk.source("<b><m>a</m></b>".repeat(3) + "<b>z</b>" + "<b><m>a</m></b>".repeat(4) + "<x/>");
        desk.press.set(9);
        Desk.due("first and last", "9 \n0 0 a, 1-3, 5-8\n", desk.page(9));
    }

    private static void references() {
        press(SHOWS, "<e as=\"side\" to=\"pqr\"/><i id=\"pqx\"/><e to=\"pqx\" as=\"side\"/><i id=\"pqr\"/>");
        text("where", "belowabove");
        press(SHOWS + "h{show:block;step:p;form:letter;label:\"#) \";}page{lines:all;}b{count:yes;}",
                "<h id=\"p\">Ti  tle</h><b>x</b><b id=\"q\">"
                + "<e to=\"p\" as=\"page\"/> <e to=\"q\" as=\"line\"/> <e to=\"p\" as=\"number\"/> <e to=\"p\" as=\"title\"/> <e to=\"p\" as=\"side\"/>"
                + " <e to=\"r\" as=\"side\"/> <e to=\"q\" as=\"side\"/> <e to=\"p\" as=\"\"/> <e to=\"p\"/> <e as=\"page\"/> <e to=\"s\" as=\"page\"/>"
                + " <e to=\"z\" as=\"page\"/> <e to=\"q\" as=\"number\"/> <e to=\"p\" as=\"Page\"/></b><i id=\"r\"/><n><i id=\"s\"/></n><i id=\"s\"/>");
        text("REFERENCES", "a) Ti tle|x|1 2 a a) Ti tle above below above ?? ?? ?? ?? ?? 0 ??");
    }

    private static void wavering() {
        press(SHOWS + "page{lines:all;}h{show:block;depth:1;count:yes;}",
                "<c/><h id=\"p\">a</h><e to=\"p\" as=\"page\"/><e to=\"p\" as=\"line\"/><e to=\"p\" as=\"side\"/><e to=\"q\" as=\"page\"/>"
                + "<o of=\"p\"><e to=\"p\" as=\"page\"/></o><o of=\"q\"/><m>t</m><x/><o><c/></o>");
        Desk.due("one ROUND", -1, desk.press.set(1));
        int[] due = {0, 2, 3, 6, 7, 10};
        Desk.due("ELEMENTS that waver", due.length, desk.press.count(10));
        for (int k = 0; k < due.length; k++) {
            Desk.due("wavering " + k, due[k], desk.press.wavering(k));
        }
        Desk.dueThrow("wavering behind them", Desk.INDEX, () -> desk.press.wavering(due.length));
        Desk.dueThrow("wavering -1", Desk.INDEX, () -> desk.press.wavering(-1));
        Desk.due("two ROUNDS", 2, desk.press.set(2));
        Desk.due("none wavers", 0, desk.press.count(10));
        Desk.dueThrow("wavering 0", Desk.INDEX, () -> desk.press.wavering(0));
        press(SHOWS + "k{depth:1;}", "<b>x</b><c/><o><k>y</k></o><n><k/></n><m/>");
        Desk.due("contents and index without rows do not waver", 1, desk.press.set(9));
        press(SHOWS + "page{width:10000;}", "<b id=\"p\">aa bb</b><b id=\"q\">cc</b>x<o of=\"q\"/>");
        Desk.due("LINES are 0, and so they are found", 1, desk.press.set(9));
        desk.source("<b id=\"p\">aa bb</b><b id=\"q\">cc</b>x<o of=\"p\"/>");
        Desk.due("an end in another line is another LINES", -1, desk.press.set(1));
        Desk.due("the NOTE wavers", 2, desk.press.wavering(0));
        Desk.due("SETTLED", 2, desk.press.set(9));
        Desk.due("0-0", 5, desk.press.paragraph(3, 5));
    }

    private static void where() {
        press(SHOWS + "page{width:10000;height:26000;rule:0;lines:page;}*{first:1;last:1;}o{lead:1000;}b{step:k;count:yes;}",
                "<b id=\"p\">aa bb</b><b id=\"q\">cc <i id=\"r\"> dd ee</i></b><i id=\"s\"/><b>ff</b><n id=\"t\"/><i id=\"t\"/><f id=\"u\"/>"
                + "<o><i id=\"v\">x</i></o> <i id=\"p\"/><e id=\"\"/><i id=\"w\"/>");
        desk.press.set(1);
        String[] ids = {"p", "q", "r", "s", "u", "", "w"};
        // ELEMENT, PAGE, LINE, first line, last line, VALUE; the last line is 1 ??
        int[][] due = {{0, 1, 1, 0, 1, 1}, {1, 2, 1, 2, 4, 2}, {2, 2, 2, 3, 4, 0}, {3, 3, 2, 5, 5, 0}, {7, 4, 0, 6, 6, 0},
            {11, 4, 0, 7, 7, 0}, {12, 4, 0, 7, 7, 0}};
        for (int k = 0; k < ids.length; k++) {
            for (int what = 0; what < 6; what++) {
                Desk.due("where " + ids[k] + " " + what, due[k][what], desk.where(ids[k], what));
            }
        }
        Desk.due("the TAPE is empty", 0, desk.tapeLength());
        for (String id : new String[] {"t", "v", "x", "pp", "P"}) {
            Desk.dueThrow("where " + id, Desk.NONE, () -> desk.where(id, 0));
            Desk.due("the TAPE is empty", 0, desk.tapeLength());
        }
        Desk.dueThrow("where 6", Desk.ARGUMENT, () -> desk.where("p", 6));
        Desk.due("the TAPE stays", 1, desk.tapeLength());
        Desk.dueThrow("where -1", Desk.ARGUMENT, () -> desk.where("p", -1));
        desk.source("<i id=\"p\"/>");
        Desk.due("of what was SET", 4, desk.where("w", 1));
        desk.press.set(1);
        int[] none = {0, 0, 0, -1, -1, 0};
        for (int what = 0; what < 6; what++) {
            Desk.due("where without lines " + what, none[what], desk.where("p", what));
        }
    }

    private static void heads() {
        press(SHOWS + "page{height:24000;}h{show:block;head:yes;}k{head:yes;}",
                "<b>a</b><b>b</b><h>One <k>in</k></h><k>Two</k><b>c</b><b>d</b><b>e</b><h>Three</h><b>f</b>");
        desk.press.set(1);
        String[] due = {"1 ", "2 One in", "3 Two", "4 Three", "5 Three"};
        Desk.due("pages", 5, desk.press.count(3));
        for (int n = 1; n <= 5; n++) {
            Desk.due("HEAD " + n + "\n", due[n - 1] + "\n", desk.page(n).split("\n")[0] + "\n");
        }
        desk.style("b{show:block;}");
        Desk.due("HEAD of what was SET\n", "5 Three\n", desk.page(5).split("\n")[0] + "\n");
    }

    private static void numbers() {
        String source = "<b>a</b><d>b</d><b>c</b><b>d</b><b>e</b><t><r><l>f</l></r></t><b>g</b>";
        String style = SHOWS + "b{count:yes;}t{count:yes;}d{show:block;}page{height:24000;";
        String[] lines = {"no", "page", "all"};
        int[][] due = {{0, 0, 0, 0, 0, 0, 0}, {1, 0, 1, 2, 1, 0, 1}, {1, 0, 2, 3, 4, 0, 5}};
        for (int k = 0; k < 3; k++) {
            press(style + "lines:" + lines[k] + ";}", source);
            desk.press.set(1);
            for (int l = 0; l < 7; l++) {
                Desk.due("NUMBER of line " + l + ", " + lines[k], due[k][l], desk.press.line(l, 3));
            }
        }
    }
}
