import java.util.HashSet;
import java.util.Set;

/** Promise 10: set, with every LIMIT just reached and one beyond it. */
public final class Promise10SetTest {
    private static Desk desk;

    public static void main(String[] args) {
        rounds();
        noSource();
        asTheyAre();
        paragraphs();
        breaks();
        bytes();
        lines();
        notes();
        floats();
        entries();
        ways();
        noRowOfColumns();
        columns();
        inThisOrder();
        inALaterRound();
        whatWasSetStays();
        again();
        behindAThrow();
        fiveHundred();
        answers();
        Desk.close("Promise10SetTest");
    }

    private static final String WIDE = "page{width:1000000;height:1000000;}" + Desk.SHOWS + "*{lead:1000;}";
    private static final String NARROW = "page{width:10000;height:1000000;}" + Desk.SHOWS + "*{lead:1000;first:1;last:1;}";

    private static void fits(String what, String style, String source) {
        desk = new Desk(style, source);
        Desk.due(what, 1, Math.abs(desk.press.set(1)));
    }

    private static void limit(String what, String style, String source) {
        desk = new Desk(style, source);
        Desk.dueThrow(what, Desk.INDEX, () -> desk.press.set(1));
        Desk.due("nothing is SET", 0, desk.press.count(6));
        Desk.dueThrow("line", Desk.STATE, () -> desk.press.line(0, 0));
    }

    private static void rounds() {
        Desk.about("rounds 1 .. 9.");
        desk = new Desk("", "a");
        Desk.dueRange("set", 1, 9, Desk.ARGUMENT, n -> desk.press.set(n));
        for (int n = 1; n <= 9; n++) {
            Desk.due("set " + n, 1, desk.press.set(n));
        }
    }

    private static void noSource() {
        Desk.about("No SOURCE: IllegalStateException.");
        ScholarsPress x = new ScholarsPress();
        Desk.dueThrow("set 1", Desk.STATE, () -> x.set(1));
        Desk.dueThrow("set 9", Desk.STATE, () -> x.set(9));
        Desk.dueThrow("set 0", Desk.ARGUMENT, () -> x.set(0));
        Desk.dueThrow("set 10", Desk.ARGUMENT, () -> x.set(10));
        x.source();
        Desk.due("an empty one", 1, x.set(1));
    }

    private static void asTheyAre() {
        Desk.about("The SOURCE is SET by STYLE, FONT, HYPHENS as they are");
        desk = new Desk("b{show:block;hyphens:yes;}page{width:15000;}", "<b>aaab</b>");
        desk.press.set(1);
        Desk.due("BREAKS", 1, desk.press.paragraph(0, 2));
        desk.hyphens("ends 11 a1b");
        desk.font("width\"b\"100;");
        desk.press.set(1);
        Desk.due("BREAKS", 2, desk.press.paragraph(0, 2));
        Desk.due("text", "aaab", desk.texts());
        desk.style("b{show:block;}i{show:block;}");
        desk.change(0, 0, "<i>q</i>");
        desk.press.set(1);
        Desk.due("text", "q|aaab", desk.texts());
        Desk.due("BREAKS", "1 1", desk.paragraphs(2));
    }

    private static void paragraphs() {
        Desk.about("more than 1200 PARAGRAPHS");
        // 399 of their own and 2 * 399 rows of contents
        String style = WIDE + "b{depth:1;}d{show:block;}";
        String many = "<b>a</b>".repeat(399) + "<k/><k/>";
        fits("1200 in FLOW", style, many + "<d>a</d>".repeat(3));
        Desk.due("PARAGRAPHS", 1200, desk.press.count(6));
        limit("1201 in FLOW", style, many + "<d>a</d>".repeat(4));
        fits("1200 with a NOTE", style, many + "<d>a</d><d>a<n/></d>");
        Desk.due("PARAGRAPHS", 1200, desk.press.count(6));
        limit("1201 with a NOTE", style, many + "<d>a</d><d>a</d><d>a<n/></d>");
        fits("1200 with cells", style, many + "<t><r><c>a</c><c>b</c><c>c</c></r></t>");
        limit("1201 with cells", style, many + "<t><r><c>a</c><c>b</c><c>c</c><c>d</c></r></t>");
        fits("PARAGRAPHS without text are none", style, many + "<d>a</d>".repeat(3) + "<d> </d>".repeat(40));
    }

    private static void breaks() {
        Desk.about("600 BREAKS in one, the END with them");
        fits("600 GLUES and END", NARROW, "<b>" + "a ".repeat(600) + "</b>");
        Desk.due("BREAKS", 600, desk.press.paragraph(0, 2));
        limit("601", NARROW, "<b>" + "a ".repeat(601) + "</b>");
        fits("599 DASHES", NARROW, "<b>" + "-".repeat(600) + "</b>");
        limit("600 DASHES", NARROW, "<b>" + "-".repeat(601) + "</b>");
        fits("in each one 600", NARROW, "<b>" + "a ".repeat(600) + "</b><b>" + "a ".repeat(600) + "</b>");
        fits("600 in a NOTE", NARROW, "x<n>" + "a ".repeat(599) + "</n>");
        Desk.due("BREAKS", "1 600", desk.paragraphs(2));
        limit("601 in a NOTE", NARROW, "x<n>" + "a ".repeat(600) + "</n>");
        fits("600 in a cell", WIDE, "<t><r><c>" + "a ".repeat(600) + "</c></r></t>");
        limit("601 in a cell", WIDE, "<t><r><c>" + "a ".repeat(601) + "</c></r></t>");
        for (int n = 600; n <= 601; n++) {
            desk = new Desk(NARROW + "b{hyphens:yes;}", "<b>" + "a".repeat(n) + "</b>");
            desk.hyphens("ends 11 a1a");
            if (n == 600) {
                Desk.due("599 HYPHENS", 1, desk.press.set(1));
            } else {
                Desk.dueThrow("600 HYPHENS", Desk.INDEX, () -> desk.press.set(1));
            }
        }
    }

    private static void bytes() {
        Desk.about("24000 bytes in all, blanks with them");
        String e = "<!e \"" + "a".repeat(1000) + "\">";
        fits("24000", WIDE, e + "<b>&e;</b>".repeat(24));
        limit("24001", WIDE, e + "<b>&e;</b>".repeat(24) + "a");
        fits("24000 with blanks", WIDE, e + "<b>&e;</b>".repeat(23) + "<b>" + "a".repeat(998) + " \n b </b>");
        Desk.due("bytes of the last", 1000, desk.press.paragraph(23, 5));
        limit("24001 with a blank", WIDE, e + "<b>&e;</b>".repeat(23) + "<b>" + "a".repeat(999) + " b</b>");
        fits("24000 with a NOTE: its number twice", WIDE, e + "<b>&e;</b>".repeat(23) + "<b>" + "a".repeat(998) + "<n/></b>");
        Desk.due("bytes", "999 1", desk.press.paragraph(23, 5) + " " + desk.press.paragraph(24, 5));
        limit("24001 with a NOTE", WIDE, e + "<b>&e;</b>".repeat(23) + "<b>" + "a".repeat(999) + "<n/></b>");
        limit("24001 with a blank in a NOTE", WIDE, e + "<b>&e;</b>".repeat(23) + "<b>" + "a".repeat(996) + "<n>xx</n></b>");
        fits("24000 with a blank in a NOTE", WIDE, e + "<b>&e;</b>".repeat(23) + "<b>" + "a".repeat(996) + "<n>x</n></b>");
    }

    private static void lines() {
        Desk.about("1500 lines of FLOW");
        String words = "<!e \"" + "aa ".repeat(500) + "\">" + "<b>&e;</b>".repeat(3);
        fits("1500", NARROW, words);
        Desk.due("lines", 1500, desk.press.count(5));
        limit("1501", NARROW, words + "a");
        limit("1501 by a row", NARROW, words + "<t><r><c>a</c></r></t>");
        String less = "<!e \"" + "aa ".repeat(500) + "\"><b>&e;</b><b>&e;</b><!f \"" + "aa ".repeat(499) + "\"><b>&f;</b>";
        fits("1500 with a row of many", NARROW, less + "<t><r><c>" + "aa ".repeat(50) + "</c></r></t>");
        Desk.due("lines", 1500, desk.press.count(5));
        limit("1501 by two rows", NARROW, less + "<t><r><c>a</c></r><r><c>a</c></r></t>");
        fits("lines of NOTES do not count", NARROW, less + "a<n>" + "aa ".repeat(20) + "</n>");
    }

    private static void notes() {
        Desk.about("120 NOTES");
        fits("120", WIDE, "a" + "<n/>".repeat(120));
        Desk.due("NOTES", 120, desk.press.count(7));
        limit("121", WIDE, "a" + "<n/>".repeat(121));
        fits("those in NOTES and cells are none", WIDE, "a" + "<n/>".repeat(119) + "<n><n/></n><t><r><c><n/></c></r></t><h><n/></h>");
        Desk.due("NOTES", 120, desk.press.count(7));
    }

    private static void floats() {
        Desk.about("40 floats");
        fits("40", WIDE, "a" + "<f/>".repeat(40));
        Desk.due("floats", 40, desk.press.count(8));
        limit("41", WIDE, "a" + "<f/>".repeat(41));
        limit("41 without lines", WIDE, "<f/>".repeat(41));
        fits("those in NOTES and cells are none", WIDE, "a" + "<f/>".repeat(40) + "<n><f/></n><t><r><c><f/></c></r></t><h><f/></h><k><f/></k>");
        Desk.due("floats", 40, desk.press.count(8));
    }

    private static void entries() {
        Desk.about("300 ENTRIES");
        StringBuilder terms = new StringBuilder("a");
        for (int k = 0; k < 300; k++) {
            terms.append("<m at=\"").append(k).append("\"/>");
        }
        fits("300", WIDE, terms.toString());
        Desk.due("ENTRIES", 300, desk.press.count(9));
        limit("301", WIDE, terms + "<m at=\"x\"/>");
        limit("301 by a TITLE", WIDE, terms + "<m>x</m>");
        fits("the same again, the empty one", WIDE, terms + "<m at=\"0\"/><m at=\"299\"/><m at=\"\"/><m/><n><m>x</m></n>");
        Desk.due("ENTRIES", 300, desk.press.count(9));
        fits("300 with an index", WIDE, terms + "<x/>");
        Desk.due("lines", 301, desk.press.count(5));
    }

    /** Ways to stand of so many lines, the first of which calls a NOTE; eight lines are in a column. */
    private static int waysOf(int lines, int noteLines) {
        Set<Integer> ways = new HashSet<>();
        ways.add(0);
        for (int from = 0; from < lines; from++) {
            for (int placed = 0; placed <= noteLines; placed++) {
                int rest = noteLines - placed;
                int must = rest == 0 ? 0 : from == 0 ? 2 : 1;
                for (int to = from + 1; to <= lines && to - from + must <= 8 && ways.contains(from * 1000 + placed); to++) {
                    ways.add(to * 1000 + placed + Math.min(rest, 8 - (to - from)));
                }
            }
        }
        return ways.size();
    }

    private static String waysSource(int lines, int noteLines) {
        return "<b>a<n>" + "xx ".repeat(noteLines - 1) + "</n> " + "bb ".repeat(lines - 1) + "</b>";
    }

    private static void ways() {
        Desk.about("20000 different ways to stand that rows of allowed columns, from the first line on, come to, with that at the beginning");
        String style = NARROW + "page{height:10000;rule:2000;}";
        Desk.due("ways", 20000, waysOf(335, 562));
        Desk.due("ways", 20001, waysOf(338, 556));
        fits("20000", style, waysSource(335, 562));
        Desk.due("lines of the NOTE", 562, desk.press.note(0, 2));
        Desk.due("lines", 335, desk.press.count(5));
        limit("20001", style, waysSource(338, 556));
    }

    private static void noRowOfColumns() {
        Desk.about("no row of columns: ArithmeticException");
        desk = new Desk(NARROW + "page{height:10000;}b{lead:10000;}", "<b>aa</b>");
        Desk.due("a line as high as the page", 1, desk.press.set(1));
        desk.style(NARROW + "page{height:10000;}b{lead:10001;}");
        Desk.dueThrow("one that is higher", Desk.ARITHMETIC, () -> desk.press.set(1));
        desk.source("");
        Desk.due("no lines at all", 1, desk.press.set(1));
    }

    private static void columns() {
        Desk.about("more than 1500 columns: IndexOutOfBoundsException");
        String words = "<!e \"" + "aa ".repeat(500) + "\">" + "<b>&e;</b>".repeat(3);
        String style = NARROW + "page{height:10000;}*{lead:10000;}f{height:10000;}";
        fits("1500", style, words);
        Desk.due("columns", 1500, desk.press.count(4));
        limit("1501 by a float", style, words + "<f/>");
        String less = "<!e \"" + "aa ".repeat(500) + "\"><b>&e;</b><b>&e;</b><!f \"" + "aa ".repeat(499) + "\"><b>&f;</b>";
        fits("1499 and one of a float", style, less + "<f/>");
        Desk.due("columns", 1500, desk.press.count(4));
        limit("1499 and two of floats", style, less + "<f/><f/>");
    }

    private static void inThisOrder() {
        Desk.about("In each ROUND, in this order: a LIMIT; no row of columns: ArithmeticException; more than 1500 columns");
        String high = NARROW + "page{height:10000;rule:2000;}d{show:block;lead:10001;}";
        limit("BREAKS, and a line that is too high", high, "<d>" + "a ".repeat(601) + "</d>");
        limit("floats, and a line that is too high", high, "<d>a</d>" + "<f/>".repeat(41));
        limit("NOTES, and a line that is too high", high, "<d>a</d>" + "<n/>".repeat(121));
        limit("ways, and a line that is too high behind them", high, waysSource(338, 556) + "<d>a</d>");
        desk = new Desk(high, waysSource(335, 562) + "<d>a</d>");
        Desk.dueThrow("ways within the LIMIT", Desk.ARITHMETIC, () -> desk.press.set(1));
    }

    private static void inALaterRound() {
        Desk.about("In each ROUND, in this order: a LIMIT ..");
        // the NUMBER of p has one byte in the first ROUND, two in the second
        String e = "<!e \"" + "a".repeat(1000) + "\">";
        String source = "<b><r to=\"p\" as=\"line\"/></b>" + "<b>a</b>".repeat(8) + "<b id=\"p\">a</b>" + "<d>&e;</d>".repeat(23);
        String style = WIDE + "page{lines:all;}r{show:ref;}b{count:yes;}d{show:block;}";
        desk = new Desk(style, e + source + "<d>" + "a".repeat(990) + "</d>");
        Desk.due("24000 bytes", -1, desk.press.set(1));
        Desk.dueThrow("24001 bytes", Desk.INDEX, () -> desk.press.set(2));
        Desk.due("what was SET stays", 1, desk.press.count(10));
        Desk.due("its first line", 1, desk.press.paragraph(0, 5));
        desk = new Desk(style, e + source + "<d>" + "a".repeat(989) + "</d>");
        Desk.due("24000 bytes in the second", 2, desk.press.set(2));
        // 0 has no width; beside 2 there is no room, and two lines may not be parted
        desk = new Desk("page{width:10000;height:12000;lines:all;}" + Desk.SHOWS + "b{count:yes;}",
                "<b><e to=\"p\" as=\"line\"/> a</b><b id=\"p\">b</b>");
        desk.font("width\"0\"0;");
        Desk.due("a row of columns", -1, desk.press.set(1));
        Desk.dueThrow("none in the second ROUND", Desk.ARITHMETIC, () -> desk.press.set(2));
        Desk.due("what was SET stays", "0 a||b", desk.texts());
        Desk.dueThrow("none in the second of nine", Desk.ARITHMETIC, () -> desk.press.set(9));
        Desk.due("it wavers", 1, desk.press.count(10));
    }

    private static void whatWasSetStays() {
        Desk.about("(What was SET before stays then.)");
        desk = new Desk(NARROW, "<b id=\"p\">aa bb</b><b>c<n>xx</n></b><f/>");
        desk.press.set(1);
        String page = desk.page(1);
        desk.source("<b>" + "a ".repeat(601) + "</b>");
        Desk.dueThrow("a LIMIT", Desk.INDEX, () -> desk.press.set(1));
        stays(page);
        desk.source("zz" + "<f/>".repeat(41));
        Desk.dueThrow("a LIMIT", Desk.INDEX, () -> desk.press.set(9));
        stays(page);
        desk.style("page{height:10000;}");
        desk.source("zz");
        Desk.dueThrow("no row of columns", Desk.ARITHMETIC, () -> desk.press.set(1));
        stays(page);
        desk.style(NARROW + "page{height:10000;}*{lead:10000;}f{height:10000;}");
        desk.source("<!e \"" + "aa ".repeat(500) + "\">" + "<b>&e;</b>".repeat(3) + "<f/>");
        Desk.dueThrow("1501 columns", Desk.INDEX, () -> desk.press.set(1));
        stays(page);
        Desk.dueThrow("a number out of range", Desk.ARGUMENT, () -> desk.press.set(0));
        stays(page);
    }

    /** Rounds and sets leave nothing behind, if they threw, too. */
    private static void again() {
        Desk.about("The SOURCE is SET by STYLE, FONT, HYPHENS as they are (and by nothing that was before)");
        // beside 1 there is no room, beside 0 and 2 there is: p is on page 2, on page 1, and so on
        desk = new Desk("page{width:10000;height:12000;}" + Desk.SHOWS + "*{first:1;last:1;lead:1000;}b:first{lead:12000;}c{size:1000;}",
                "<!q \"" + "aa ".repeat(500) + "\"><b><e to=\"p\" as=\"page\"/> <i id=\"p\">x</i></b><b>&q;</b><b>&q;</b>"
                + "<t>" + "<r><c>a-b-c-d-e-f-g-h-i-j-k-l-m-n-o-p-q-r-s-t</c></r>".repeat(100) + "</t>");
        desk.font("width\"0\"0;width\"2\"0;width\"1\"800;");
        for (int n = 0; n < 6; n++) {
            Desk.due("nine ROUNDS of 3000 BREAKS and 100 rows each", -9, desk.press.set(9));
            Desk.due("lines", 1101, desk.press.count(5));
            Desk.due("the first line", "2 x", desk.texts(1));
        }
    }

    private static void behindAThrow() {
        Desk.about("(What was SET before stays then.) And what is SET next is SET as ever.");
        StringBuilder terms = new StringBuilder("a");
        for (int k = 0; k < 301; k++) {
            terms.append("<m at=\"").append(k).append("\"/>");
        }
        desk = new Desk(WIDE + "b{left:5000;right:600;above:70;}", terms.toString());
        Desk.dueThrow("301 ENTRIES", Desk.INDEX, () -> desk.press.set(1));
        desk.source("a<m>b</m>");
        Desk.due("one ENTRY", 1, desk.press.set(1));
        desk.source("<b>x <b>" + "<f/>".repeat(41) + "</b></b>");
        Desk.dueThrow("41 floats, within BLOCKS", Desk.INDEX, () -> desk.press.set(1));
        desk.source("a<b>b</b>");
        Desk.due("set", 1, desk.press.set(1));
        Desk.due("widths", "1000000 994400", desk.paragraphs(4));
        Desk.due("where they begin", "0 5000", desk.lines(6));
        desk = new Desk(NARROW + "page{height:10000;rule:2000;}f{height:3000;}", waysSource(338, 556));
        Desk.dueThrow("20001 ways", Desk.INDEX, () -> desk.press.set(1));
        desk.source("<b>aa</b><f/><f/><b>bb</b><b>c<n>x</n></b>");
        Desk.due("set", 1, desk.press.set(1));
        Desk.due("floats", 2, desk.press.count(8));
        desk.source("<b>aa</b><b>bb</b><b>cc</b>");
        Desk.due("set", 1, desk.press.set(1));
        Desk.due("nothing of floats and NOTES before", "0 1000 2000", desk.lines(1));
        Desk.due("columns", 1, desk.press.count(4));
        Desk.due("text", "aa|bb|cc", desk.texts());
        otherColumns();
    }

    private static void otherColumns() {
        desk = new Desk("page{width:20000;height:100000;rule:0;columns:4;}" + Desk.SHOWS + "*{lead:20000;first:1;last:1;hyphens:yes;tolerance:10000;}", "");
        desk.hyphens("ends 11 a1b");
        for (int again = 0; again < 3; again++) {
            for (int twice = 0; twice < 2; twice++) {
                desk.source("<b>" + "aaabbbb ".repeat(6) + "</b>");
                desk.press.set(1);
                Desk.due("twelve lines", 12, desk.press.count(5));
            }
            desk.source("x<n>" + "yyyy ".repeat(7) + "</n>");
            desk.press.set(1);
            Desk.due("a REST alone", "x1|1" + "|yyyy".repeat(7), desk.texts());
            Desk.due("columns", 2, desk.press.count(4));
            desk.source("<b>cccc cccc cccc cccc</b><t><r><c>d</c></r></t><b>cccc cccc</b>");
            desk.press.set(1);
            Desk.due("a row has no HYPHEN, though a line before had", "0 0 0 0 0 1 1", desk.lines(0));
        }
    }

    private static void fiveHundred() {
        Desk.about("The SOURCE is SET (of 500 ELEMENTS, too)");
        fits("500 tables", WIDE, "<t/>".repeat(500));
        fits("500 inline ones", WIDE, "<i>a</i>".repeat(500));
        fits("contents of 499", WIDE + "i{depth:1;}", "<k/>" + "<i>a</i>".repeat(499));
        Desk.due("lines", 500, desk.press.count(5));
        fits("249 rows", WIDE, "<t>" + "<r><c>a</c></r>".repeat(249) + "</t><b>b</b>");
        Desk.due("lines", 250, desk.press.count(5));
    }

    private static void stays(String page) {
        Desk.due("lines", 3, desk.press.count(5));
        Desk.due("PARAGRAPHS that were new", 3, desk.press.count(11));
        Desk.due("floats", 1, desk.press.count(8));
        Desk.due("an ID", 1, desk.where("p", 4));
        Desk.due("RATIO", "0 0 0", desk.lines(4));
        Desk.due("judge", desk.press.paragraph(0, 0), desk.judge(0, "1"));
        Desk.due("the NOTE", 2, desk.press.note(0, 2));
        Desk.due("page", page, desk.page(1));
    }

    private static void answers() {
        Desk.about("at most so many ROUNDS, until one is SETTLED; Answers how many ROUNDS, 0 less them if the last is not SETTLED.");
        desk = new Desk(Desk.SHOWS, "<b id=\"p\">a</b><e to=\"p\" as=\"page\"/>");
        int[] due = {-1, 2, 2, 2, 2, 2, 2, 2, 2};
        for (int n = 1; n <= 9; n++) {
            Desk.due("set " + n, due[n - 1], desk.press.set(n));
            Desk.due("ELEMENTS that waver", n == 1 ? 1 : 0, desk.press.count(10));
        }
    }
}
