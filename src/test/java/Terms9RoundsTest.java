/** Terms, 9 ROUNDS: each sentence that names a boundary. */
public final class Terms9RoundsTest {
    private static Desk desk;

    public static void main(String[] args) {
        pageAndLine();
        linesOfAnElement();
        referenceByAs();
        noReference();
        side();
        firstRound();
        nextRounds();
        settledAtOnce();
        settledLater();
        neverSettled();
        allTermsOfAnEntry();
        theLineOfAnEnd();
        Desk.close("Terms9RoundsTest");
    }

    private static void press(String style, String source) {
        desk = new Desk(Desk.SHOWS + style, source);
    }

    private static void text(String style, String source, String due) {
        press(style, source);
        desk.press.set(9);
        Desk.due("text of " + source + " by " + style, due, desk.texts());
    }

    private static void pageAndLine() {
        Desk.about("PAGE of an ELEMENT: that on which it begins; LINE: the NUMBER of that line, 0 without");
        press("page{width:10000;height:12000;lines:all;}b{count:yes;first:1;last:1;}", "<b>aa <i id=\"p\">bb cc</i></b>dd<i id=\"q\"/>");
        desk.press.set(9);
        Desk.due("PAGE of p", 2, desk.where("p", 1));
        Desk.due("LINE of p", 2, desk.where("p", 2));
        Desk.due("PAGE of q, behind all", 4, desk.where("q", 1));
        Desk.due("LINE of q, whose line has none", 0, desk.where("q", 2));
    }

    private static void linesOfAnElement() {
        Desk.about("LINES: of that in which it begins and, if it is another one, - and of that in which it ends.");
        String style = "page{width:20000;lines:all;}b{count:yes;}n{size:1000;}";
        text(style, "<b><i id=\"p\">aaaa</i> bbbb</b>x<n of=\"p\"/>", "aaaa|bbbb|x1|1 1");
        text(style, "<b><i id=\"p\">aaaa bbbb</i></b>x<n of=\"p\"/>", "aaaa|bbbb|x1|1 1-2");
        text(style, "<b><i id=\"p\">aaaa bbbb cccc</i></b>x<n of=\"p\"/>", "aaaa|bbbb|cccc|x1|1 1-3");
        text(style, "<b>aaaa<i id=\"p\"/> bbbb</b>x<n of=\"p\"/>", "aaaa|bbbb|x1|1 2");
        text(style, "<i id=\"p\"><b>aaaa</b>bbbb</i>x<n of=\"p\"/>", "aaaa|bbbbx1|1 1-0");
        text(style, "<i id=\"p\">aaaa<b>bbbb</b></i>x<n of=\"p\"/>", "aaaa|bbbb|x1|1 0-1");
        text("page{width:20000;height:36000;rule:0;lines:page;}b{count:yes;first:1;last:1;}n{lead:1000;size:1000;}",
                "<b><i id=\"p\">aaaa bbbb cccc dddd</i></b><b>e<n of=\"p\"/></b>", "aaaa|bbbb|cccc||dddd|e1|1 1-1");
    }

    private static void referenceByAs() {
        Desk.about("REFERENCE of a ref: by FIELD as: page, line (of its FIELD to's ELEMENT by ID), number: VALUE in form; title: TITLE");
        String style = "page{lines:all;}b{count:yes;}d{step:p;form:roman;show:block;count:yes;}";
        String target = "<b>x</b><d/><d/><d id=\"p\">T  t</d>";
        text(style, target + "<e to=\"p\" as=\"page\"/>", "x|T t|1");
        text(style, target + "<e to=\"p\" as=\"line\"/>", "x|T t|2");
        text(style, target + "<e to=\"p\" as=\"number\"/>", "x|T t|iii");
        text(style + "e{form:letter;}", target + "<e to=\"p\" as=\"number\"/>", "x|T t|iii");
        text(style, target + "<e to=\"p\" as=\"title\"/>", "x|T t|T t");
        text(style, target + "<e as=\"title\" to=\"p\">no</e>", "x|T t|T t");
        text(style, "<b id=\"p\">x</b><e to=\"p\" as=\"number\"/>", "x|0");
        text(style, "<b id=\"p\"> </b>x<e to=\"p\" as=\"title\"/>y", "xy");
        text(style, "<b>x<n id=\"p\">tt</n></b><e to=\"p\" as=\"title\"/>", "x1|tt|1 tt");
        text("", "<b id=\"\">x</b><e to=\"\" as=\"title\"/>", "x|x");
        text("", "<b id=\"p\">x</b><n><e to=\"p\" as=\"page\"/></n>", "x|1|1 1");
        text("", "<b id=\"p\">x</b><t><r><c><e to=\"p\" as=\"page\"/></c></r></t>", "x|1");
        press("e{size:20000;}", "<b id=\"p\">x</b><e to=\"p\" as=\"title\"/> y");
        Desk.due("in its size", 10000 + 5000, desk.set(9).press.spot(1, 1));
    }

    private static void noReference() {
        Desk.about("with another as or none, or if the (first) ELEMENT with that ID is not there or not IN FLOW: ?? (so for LINES)");
        String[] others = {"as=\"pages\"", "as=\"Page\"", "as=\"\"", "as=\" page\"", "as=\"lines\"", ""};
        for (String other : others) {
            text("", "<i id=\"p\">x</i><e to=\"p\" " + other + "/>", "x??");
        }
        text("", "<i id=\"p\">x</i><e as=\"page\"/>", "x??");
        for (String as : new String[] {"page", "line", "number", "title", "side"}) {
            text("", "<i id=\"p\">x</i><e to=\"q\" as=\"" + as + "\"/>", "x??");
            text("", "<h id=\"p\">x</h><i id=\"p\">y</i><e to=\"p\" as=\"" + as + "\"/>", "y??");
            text("", "<n><i id=\"p\">x</i></n><e to=\"p\" as=\"" + as + "\"/>", "1??|1 x");
            text("", "<t><r><c><i id=\"p\">x</i></c></r></t><e to=\"p\" as=\"" + as + "\"/>", "x|??");
            text("", "<k><i id=\"p\">x</i></k><e to=\"p\" as=\"" + as + "\"/>", "??");
        }
        text("", "x<n of=\"q\"/>", "x1|1 ??");
        text("", "<h id=\"p\">x</h><i id=\"p\">y</i><n of=\"p\"/>", "y1|1 ??");
        press("", "<i id=\"p\">x</i><e to=\"q\" as=\"page\"/><e to=\"p\"/>");
        Desk.due("?? is SETTLED at once", 1, desk.press.set(9));
        press("", "<i id=\"p\">x</i><e to=\"p\" as=\"title\"/>");
        Desk.due("a TITLE", "xx", desk.set(9).texts());
        desk.source("<i id=\"p\">x</i><e to=\"p\"/>");
        Desk.due("as is gone", "x??", desk.set(9).texts());
        text("", "<e to=\"q\" as=\"page\"/>" + "<i/>".repeat(499), "??");
    }

    private static void side() {
        Desk.about("side: above if that is of a lesser number, else below");
        text("", "<i id=\"p\">x</i><e to=\"p\" as=\"side\"/>", "xabove");
        text("", "<e to=\"p\" as=\"side\"/><i id=\"p\">x</i>", "belowx");
        text("", "<e id=\"p\" to=\"p\" as=\"side\"/>", "below");
        text("", "<i id=\"p\"><e to=\"p\" as=\"side\"/></i>", "above");
        text("", "x<n><e to=\"p\" as=\"side\"/></n><i id=\"p\"/>", "x1|1 below");
        press("", "<i id=\"p\">x</i><e to=\"p\" as=\"side\"/><e to=\"p\" as=\"title\"/><e to=\"p\" as=\"number\"/>");
        Desk.due("side, title, number are SETTLED at once", 1, desk.press.set(9));
    }

    private static void firstRound() {
        Desk.about("In the first round all pages, LINES are 0");
        press("page{lines:all;width:500000;}b{count:yes;}d{depth:1;}",
                "<b id=\"p\">x</b><e to=\"p\" as=\"page\"/><e to=\"p\" as=\"line\"/><n of=\"p\"/><k/><d>y</d><m>t</m><x/>");
        Desk.due("set", -1, desk.press.set(1));
        Desk.due("text", "x|001|y 0|yt|t, 0|1 0", desk.texts());
        Desk.due("a second one", -1, desk.press.set(1));
        Desk.due("set begins anew", "x|001|y 0|yt|t, 0|1 0", desk.texts());
        Desk.due("two", 2, desk.press.set(2));
        Desk.due("text", "x|111|y 1|yt|t, 1|1 1", desk.texts());
    }

    private static void nextRounds() {
        Desk.about("in each next one as in the round before");
        // three lines on a page; 1 is wide: then aa is a line of its own, and p is on the next page
        press("page{width:10000;height:36000;}b{first:1;last:1;}",
                "<b>bb</b><b><e to=\"q\" as=\"page\"/> a</b><b id=\"p\">cc</b><b><e to=\"p\" as=\"page\"/></b><i id=\"q\">x</i>");
        desk.font("width\"0\"0;width\"1\"800;width\"2\"800;");
        String[] due = {"bb|0 a|cc||0|x", "bb|2|a||cc|1|x", "bb|2|a||cc|2|x"};
        for (int rounds = 1; rounds <= 3; rounds++) {
            Desk.due("set " + rounds, rounds == 3 ? 3 : -rounds, desk.press.set(rounds));
            Desk.due("text", due[rounds - 1], desk.texts());
            Desk.due("PAGE found", rounds == 1 ? 1 : 2, desk.where("p", 1));
        }
        Desk.due("no more than are needed", 3, desk.press.set(9));
    }

    private static void settled(String style, String source, int due) {
        press(style, source);
        Desk.due("ROUNDS of " + source + " by " + style, due, desk.press.set(9));
    }

    private static void settledAtOnce() {
        Desk.about("SETTLED: pages and LINES as the round found them are those that it took, wherever a text has them");
        settled("", "", 1);
        settled("", "<b>x</b><n>y</n>", 1);
        settled("d{depth:1;}", "<d>x</d>", 1);
        settled("", "<m>x</m>", 1);
        settled("", "<k/><x/>y", 1);
        settled("d{depth:1;}", "<h><k/></h><d>x</d>", 1);
        settled("d{depth:1;}", "<n><k/><x/></n><d>x</d><m>y</m>", 1);
        settled("", "<i id=\"p\">x</i><e to=\"p\" as=\"line\"/>", 1);
        settled("", "<i id=\"p\">x</i><n of=\"p\"/>", 1);
        settled("", "<i id=\"p\"/><h><e to=\"p\" as=\"page\"/></h>x", 1);
        settled("", "<i id=\"p\"/><f/>", 1);
        settled("d{depth:1;}", "<d/><f/><i id=\"p\"/>", 1);
    }

    private static void settledLater() {
        Desk.about("SETTLED: pages and LINES as the round found them are those that it took, wherever a text has them");
        settled("", "<i id=\"p\">x</i><e to=\"p\" as=\"page\"/>", 2);
        settled("d{depth:1;}", "<k/><d>x</d>", 2);
        settled("k{depth:1;}", "<k/>", 2);
        settled("", "<m>x</m><x/>", 2);
        settled("page{lines:all;}b{count:yes;}", "<b id=\"p\">x</b><e to=\"p\" as=\"line\"/>", 2);
        settled("page{lines:all;}b{count:yes;}", "<b id=\"p\">x</b><n of=\"p\"/>", 2);
        settled("", "<i id=\"p\">x</i><n><e to=\"p\" as=\"page\"/></n>", 2);
        settled("", "<i id=\"p\">x</i><t><r><c><e to=\"p\" as=\"page\"/></c></r></t>", 2);
    }

    private static void neverSettled() {
        Desk.about("Answers how many ROUNDS, 0 less them if the last is not SETTLED.");
        // 0 and 2 have no width: x stands beside them, on page 1; beside 1 it has no room, and stands on page 2
        press("page{width:10000;height:12000;}b{first:1;last:1;}", "<b><e to=\"p\" as=\"page\"/> <i id=\"p\">x</i></b>");
        desk.font("width\"0\"0;width\"2\"0;width\"1\"800;");
        String[] due = {"0 x", "1||x", "2 x", "1||x", "2 x", "1||x", "2 x", "1||x", "2 x"};
        for (int rounds = 1; rounds <= 9; rounds++) {
            Desk.due("set", -rounds, desk.press.set(rounds));
            Desk.due("text", due[rounds - 1], desk.texts());
            Desk.due("PAGE found", rounds % 2 == 1 ? 1 : 2, desk.where("p", 1));
            Desk.due("ELEMENTS that waver", 1, desk.press.count(10));
            Desk.due("the ref", 1, desk.press.wavering(0));
        }
    }

    private static void allTermsOfAnEntry() {
        Desk.about("(of an ENTRY those of all its terms)");
        press("page{width:10000;height:36000;}b{first:1;last:1;}",
                "<b id=\"p\">a<m at=\"q\"/>a</b><b><e to=\"p\" as=\"page\"/> a</b><b>b<m at=\"q\"/>b</b><b>c<m at=\"q\"/>c</b><x/>");
        desk.font("width\"0\"0;width\"1\"800;width\"2\"0;");
        // pages 1, 1, 2, then 1, 2, 2: the text is the same, but the second term has another page
        Desk.due("two ROUNDS", -2, desk.press.set(2));
        Desk.due("only the index wavers", 1, desk.press.count(10));
        Desk.due("it is the index", 8, desk.press.wavering(0));
        Desk.due("three ROUNDS", 3, desk.press.set(9));
        Desk.due("none wavers", 0, desk.press.count(10));
    }

    private static void theLineOfAnEnd() {
        Desk.about("before the first round the line of an end is none other");
        settled("page{width:10000;}", "<b id=\"p\">aa</b>x<n of=\"p\"/>", 1);
        settled("page{width:10000;}", "<b id=\"p\">aa bb</b>x<n of=\"p\"/>", 2);
        desk.press.set(1);
        Desk.due("0, and it is 0-0", "aa|bb|x1|1|0", desk.texts());
        Desk.due("the NOTE wavers", 1, desk.press.wavering(0));
        settled("page{width:10000;}", "<b id=\"p\">aa bb</b>x<e to=\"p\" as=\"line\"/>", 1);
    }
}
