/** Promise 12: count. */
public final class Promise12CountTest {
    private static Desk desk;

    public static void main(String[] args) {
        numbers();
        ofTheSource();
        ofWhatIsSet();
        newOnes();
        whatIsTheSame();
        otherBreaks();
        Desk.close("Promise12CountTest");
    }

    private static void numbers() {
        Desk.about("what 0 .. 11, else IllegalArgumentException");
        desk = new Desk();
        Desk.dueRange("count", 0, 11, Desk.ARGUMENT, what -> desk.press.count(what));
        desk.source("a");
        desk.press.set(1);
        Desk.dueRange("count", 0, 11, Desk.ARGUMENT, what -> desk.press.count(what));
    }

    private static String all() {
        StringBuilder text = new StringBuilder();
        for (int what = 0; what <= 11; what++) {
            text.append(what > 0 ? " " : "").append(desk.press.count(what));
        }
        return text.toString();
    }

    private static void ofTheSource() {
        Desk.about("what 0: ELEMENTS, 1: ENTITIES of the SOURCE, 2: its bytes (0 without one)");
        desk = new Desk();
        Desk.due("without", "0 0 0 0 0 0 0 0 0 0 0 0", all());
        desk.source("<!q \"\"><!r \"\"><a/>&q;");
        Desk.due("of the SOURCE", "1 2 21 0 0 0 0 0 0 0 0 0", all());
        Desk.dueThrow("a change that is BROKEN", Desk.BROKEN, () -> desk.change(0, 7, ""));
        Desk.due("behind it", "1 2 21 0 0 0 0 0 0 0 0 0", all());
        desk.change(7, 14, "");
        Desk.due("behind a change", "1 1 14 0 0 0 0 0 0 0 0 0", all());
        desk.source("");
        Desk.due("of an empty one", "0 0 0 0 0 0 0 0 0 0 0 0", all());
    }

    private static void ofWhatIsSet() {
        Desk.about("of what is SET (0 without): 3: pages, 4: columns, 5: lines of FLOW, 6: PARAGRAPHS, 7: NOTES, 8: floats, 9: ENTRIES, 10: ELEMENTS that waver");
        desk = new Desk("page{width:10000;height:30000;columns:2;}" + Desk.SHOWS + "f{height:30000;}",
                "<b id=\"p\">aa bb</b><b>c<n/></b><f/><m>dd</m> <m at=\"q\"/><b>z<e to=\"p\" as=\"page\"/></b>");
        desk.press.set(1);
        // aa bb | c1 | dd z0 | the float
        Desk.due("all", "8 0 85 2 4 5 5 1 1 2 1 5", all());
        desk.press.set(9);
        Desk.due("SETTLED; one PARAGRAPH is new", "8 0 85 2 4 5 5 1 1 2 0 1", all());
        desk.source("");
        Desk.due("of what is SET, not of the SOURCE", "0 0 0 2 4 5 5 1 1 2 0 1", all());
        desk.press.set(1);
        Desk.due("nothing in it", "0 0 0 0 0 0 0 0 0 0 0 0", all());
    }

    private static void newOnes() {
        Desk.about("11: PARAGRAPHS that are not as one of what was SET before");
        desk = new Desk("b{show:block;}n{show:note;}", "<b>aa</b><b>bb</b><b>aa</b>");
        desk.press.set(1);
        Desk.due("nothing was SET before", 3, desk.press.count(11));
        desk.press.set(1);
        Desk.due("all as before", 0, desk.press.count(11));
        desk.source("<b>aa</b><b>aa</b><b>cc</b><b>cc</b>");
        desk.press.set(1);
        Desk.due("each by itself", 2, desk.press.count(11));
        desk.source("<b>bb</b>");
        desk.press.set(1);
        Desk.due("what was SET before that does not count", 1, desk.press.count(11));
        desk.source("");
        desk.press.set(1);
        Desk.due("none at all", 0, desk.press.count(11));
        desk.source("<b>bb</b>");
        desk.press.set(1);
        Desk.due("an empty one was SET before", 1, desk.press.count(11));
        desk.source("<b>bb<n>x</n></b>");
        desk.press.set(1);
        Desk.due("a NOTE, too", 2, desk.press.count(11));
        desk.source("<b>1 x</b>");
        desk.press.set(1);
        Desk.due("one of FLOW as that of a NOTE", 0, desk.press.count(11));
    }

    private static void changed(String call, String style, String source, int due) {
        desk = new Desk("page{width:20000;}b{show:block;}i{size:10000;}", "<b>ab c<i>d</i></b>");
        desk.hyphens("ends 11 a1b");
        desk.press.set(1);
        desk.style("page{width:20000;}b{show:block;}i{size:10000;}" + style);
        desk.source(source);
        desk.press.set(1);
        Desk.due(call, due, desk.press.count(11));
    }

    private static void otherBreaks() {
        Desk.about("(the same bytes, sizes, BREAKS and width)");
        desk = new Desk("b{show:block;hyphens:yes;}", "<b>aaaa</b>");
        String[] hyphens = {"ends 11 =a-aaa", "ends 11 =aaa-a", "ends 11 =aaa-a", "ends 11 =a-aa-a", "ends 11 =a-a-aa"};
        int[] due = {1, 1, 0, 1, 1};
        for (int k = 0; k < hyphens.length; k++) {
            desk.hyphens(hyphens[k]);
            desk.press.set(1);
            Desk.due("BREAKS by " + hyphens[k], due[k], desk.press.count(11));
        }
    }

    private static void whatIsTheSame() {
        Desk.about("(the same bytes, sizes, BREAKS and width; lead, indent, align, tolerance)");
        String same = "<b>ab c<i>d</i></b>";
        changed("nothing", "", same, 0);
        changed("bytes", "", "<b>ab c<i>e</i></b>", 1);
        changed("one byte more", "", "<b>ab c<i>de</i></b>", 1);
        changed("the same bytes otherwise", "", "<b>ab\n\ncd</b>", 0);
        changed("in another BLOCK", "d{show:block;}", "<d>ab cd</d>", 0);
        changed("size of one byte", "i{size:10001;}", same, 1);
        changed("size of all", "b{size:10001;}", same, 1);
        changed("BREAKS", "b{hyphens:yes;}", same, 1);
        changed("width", "b{right:1;}", same, 1);
        changed("width, by the page", "page{width:20001;}", same, 1);
        changed("left and right, but not the width", "page{width:20003;}b{left:1;right:2;}", same, 0);
        changed("lead", "b{lead:12001;}", same, 1);
        changed("indent", "b{indent:1;}", same, 1);
        changed("align", "b{align:left;}", same, 1);
        changed("tolerance", "b{tolerance:201;}", same, 1);
        changed("others", "b{above:1;below:1;first:1;last:1;keep:yes;count:yes;depth:1;head:yes;}", same, 0);
    }
}
