import java.util.HashSet;
import java.util.Set;

/** Promises 10 and 12: set, its ROUNDS and LIMITS, and count. */
public final class SetTest {
    private static Desk desk;

    public static void main(String[] args) {
        rounds();
        stays();
        counts();
        changed();
        textLimits();
        thingLimits();
        wayLimits();
        columnLimits();
        Desk.close("SetTest");
    }

    private static void press(String style, String source) {
        desk = new Desk();
        desk.style("page{width:10000;height:1000000;}b{show:block;}n{show:note;}f{show:float;}e{show:ref;}t{show:term;}"
                + "c{show:contents;}x{show:index;}" + style);
        desk.source(source);
    }

    private static void limit(String call) {
        Desk.dueThrow(call, Desk.INDEX, () -> desk.press.set(1));
    }

    private static void rounds() {
        press("", "");
        Desk.due("an empty SOURCE", 1, desk.press.set(9));
        Desk.dueThrow("0 ROUNDS", Desk.ARGUMENT, () -> desk.press.set(0));
        Desk.dueThrow("10 ROUNDS", Desk.ARGUMENT, () -> desk.press.set(10));
        Desk.dueThrow("10 ROUNDS without SOURCE", Desk.ARGUMENT, () -> new ScholarsPress().set(10));
        Desk.dueThrow("without SOURCE", Desk.STATE, () -> new ScholarsPress().set(9));
        press("page{height:12000;}", "<b><e to=\"p\" as=\"page\"/></b><b id=\"p\">aa</b>");
        Desk.due("not SETTLED", -1, desk.press.set(1));
        Desk.due("page 1", "1 \n0 0 0\n", desk.page(1));
        Desk.due("SETTLED in the second", 2, desk.press.set(2));
        Desk.due("page 1", "1 \n0 0 2\n", desk.page(1));
        Desk.due("SETTLED in the second of nine", 2, desk.press.set(9));
        // c and a NUMBER of two digits are two lines: then the tenth line is the first of the next page
        press("page{height:120000;width:15000;lines:page;}b{count:yes;}",
                "<b>c <e to=\"p\" as=\"line\"/></b>" + "<b>aaa</b>".repeat(8) + "<b id=\"p\">aaa</b>");
        for (int n = 1; n <= 9; n++) {
            Desk.due("never SETTLED", -n, desk.press.set(n));
            Desk.due("NUMBER found", n % 2 == 1 ? 10 : 1, desk.where("p", 2));
            Desk.due("ELEMENTS that waver", 1, desk.press.count(10));
        }
        desk.change(0, 0, "<b>zzz</b>");
        Desk.due("one line more, and it is SETTLED", 2, desk.press.set(9));
        Desk.due("NUMBER", 1, desk.where("p", 2));
    }

    private static void stays() {
        press("page{height:24000;}", "<b>aa bb</b><b>cc</b>");
        desk.press.set(1);
        desk.source("<b>" + "aa ".repeat(601) + "</b>");
        limit("601 BREAKS");
        desk.source("<b>dd ee ff</b><b id=\"p\"/>");
        Desk.dueThrow("no row of columns", Desk.ARITHMETIC, () -> desk.press.set(1));
        Desk.due("lines", 3, desk.press.count(5));
        Desk.due("page 1", "1 \n0 0 aa\n12000 0 bb\n", desk.page(1));
        Desk.due("page 2", "2 \n0 0 cc\n", desk.page(2));
        Desk.dueThrow("an ID of what is not SET", Desk.NONE, () -> desk.where("p", 0));
        desk.source("<b>dd ee ff</b>" + "<f/>".repeat(41));
        limit("a LIMIT comes before no row of columns");
        desk.style("page{width:10000;height:36000;}b{show:block;}");
        Desk.due("set", 1, desk.press.set(1));
        Desk.due("page 1", "1 \n0 0 dd\n12000 0 ee\n24000 0 ff\n", desk.page(1));
    }

    private static void counts() {
        press("page{height:24000;columns:2;}f{height:24000;}", "<!e \"\"><b>aa bb</b><b>c<n/></b><f/><t>dd</t> <t at=\"q\"/>");
        desk.style("page{width:10000;height:30000;columns:2;}b{show:block;}n{show:note;}f{show:float;height:24000;}t{show:term;}");
        int[] before = {6, 1, 56, 0, 0, 0, 0, 0, 0, 0, 0, 0};
        for (int what = 0; what <= 11; what++) {
            Desk.due("count " + what + " before set", before[what], desk.press.count(what));
        }
        Desk.due("set", 1, desk.press.set(9));
        // aa bb | c1 and its NOTE | dd | the float
        int[] after = {6, 1, 56, 2, 4, 4, 4, 1, 1, 2, 0, 4};
        for (int what = 0; what <= 11; what++) {
            Desk.due("count " + what, after[what], desk.press.count(what));
        }
        desk.source("");
        Desk.due("ELEMENTS of the SOURCE", 0, desk.press.count(0));
        Desk.due("lines of what is SET", 4, desk.press.count(5));
    }

    private static void changedBy(String call, String style, String source, int due) {
        press("", "<b>aa bb</b><b>ccaa</b><b>dd<n>x</n></b>");
        desk.hyphens("ends 11 c1a");
        desk.press.set(1);
        Desk.due("all PARAGRAPHS are new", 4, desk.press.count(11));
        desk.style("page{width:10000;height:1000000;}b{show:block;}n{show:note;}" + style);
        desk.source(source);
        desk.press.set(1);
        Desk.due("changed by " + call, due, desk.press.count(11));
        desk.press.set(1);
        Desk.due("nothing changed", 0, desk.press.count(11));
    }

    private static void changed() {
        String same = "<b>aa bb</b><b>ccaa</b><b>dd<n>x</n></b>";
        changedBy("nothing", "", same, 0);
        changedBy("bytes", "", "<b>aa bc</b><b>ccaa</b><b>dd<n>x</n></b>", 1);
        changedBy("another order", "", "<b>ccaa</b><b>dd<n>x</n></b><b>aa bb</b><b>aa\nbb</b>", 0);
        changedBy("size", "b:nth(2){size:10001;}", same, 1);
        changedBy("size of a byte", "i{size:10001;}", "<b>aa b<i>b</i></b><b>ccaa</b><b>dd<n>x</n></b>", 1);
        changedBy("BREAKS", "b{hyphens:yes;}", same, 1);
        changedBy("width", "b:first{left:1;}", same, 1);
        changedBy("lead", "b:last{lead:5000;}", same, 2);
        changedBy("indent", "b:nth(2){indent:5;}", same, 1);
        changedBy("align", "n{align:left;}", same, 1);
        changedBy("tolerance", "b{tolerance:7;}n{tolerance:200;}", same, 3);
        changedBy("above", "b{above:1;below:2;keep:yes;}", same, 0);
        press("", same);
        desk.press.set(1);
        desk.font("width\"a\"7;");
        desk.press.set(1);
        Desk.due("a FONT changes none", 0, desk.press.count(11));
    }

    private static void textLimits() {
        press("*{lead:1000;}", "<!e \"" + "a".repeat(1000) + "\">" + "<b>&e;</b>".repeat(24));
        Desk.due("24000 bytes", 1, desk.press.set(1));
        desk.change(0, 0, "a");
        limit("24001 bytes");
        press("*{lead:1000;}", "<!e \"" + "a".repeat(995) + "\">" + "<b>&e; \n b <n>  </n></b>".repeat(24));
        desk.style("page{width:10000;height:1000000;}b{show:block;}*{lead:1000;}");
        Desk.due("blanks of 24000 bytes", 1, desk.press.set(1));
        Desk.due("bytes", 997, desk.press.paragraph(0, 5));
        press("*{lead:1000;}", "<b>" + "a ".repeat(600) + "</b>");
        Desk.due("600 BREAKS", 1, desk.press.set(1));
        Desk.due("BREAKS", 600, desk.press.paragraph(0, 2));
        desk.change(3, 3, "a-");
        limit("601 BREAKS");
        press("page{width:100000;}*{lead:1000;}b{depth:1;}", "<b>a</b>".repeat(400) + "<c/><c/>");
        Desk.due("1200 PARAGRAPHS", -1, desk.press.set(1));
        Desk.due("PARAGRAPHS", 1200, desk.press.count(6));
        desk.change(0, 0, "a");
        limit("1201 PARAGRAPHS");
    }

    private static void thingLimits() {
        press("n{lead:1000;}", "<b>a" + "<n/>".repeat(120) + "</b>");
        Desk.due("120 NOTES", 1, desk.press.set(1));
        desk.change(3, 3, "<n/>");
        limit("121 NOTES");
        press("", "a" + "<f/>".repeat(40));
        Desk.due("40 floats", 1, desk.press.set(1));
        desk.change(0, 0, "<f/>");
        limit("41 floats");
        StringBuilder terms = new StringBuilder("a");
        for (int k = 0; k < 300; k++) {
            terms.append("<t at=\"").append(k).append("\"/>");
        }
        press("", terms + "<t at=\"7\"/><t at=\"\"/>");
        Desk.due("300 ENTRIES", 1, desk.press.set(1));
        Desk.due("ENTRIES", 300, desk.press.count(9));
        desk.change(0, 0, "<t>q</t>");
        limit("301 ENTRIES");
        press("*{lead:1000;}", ("<b>" + "aa ".repeat(500) + "</b>").repeat(3));
        Desk.due("1500 lines", 1, desk.press.set(1));
        Desk.due("lines", 1500, desk.press.count(5));
        desk.change(0, 0, "<b>a</b>");
        limit("1501 lines");
    }

    /** One NOTE of many lines: columns of ten lines, of which some are lines of it. */
    private static int ways(int lines, int noteLines) {
        Set<Integer> ways = new HashSet<>();
        ways.add(0);
        for (int from = 0; from < lines; from++) {
            for (int placed = 0; placed <= noteLines; placed++) {
                if (ways.contains(from * 1000 + placed)) {
                    int rest = noteLines - placed;
                    int must = rest == 0 ? 0 : from == 0 ? 2 : 1;
                    for (int to = from + 1; to <= lines && to - from + must <= 10; to++) {
                        ways.add(to * 1000 + placed + Math.min(rest, 10 - (to - from)));
                    }
                }
            }
        }
        return ways.size();
    }

    private static void wayLimits() {
        int lines = 300;
        while (ways(lines, 598) <= 20000) {
            lines++;
        }
        String note = "<n>" + "xx ".repeat(597) + "</n>";
        press("page{height:10000;rule:0;}*{lead:1000;first:1;last:1;}", "<b>a" + note + " " + "bb ".repeat(lines - 2) + "</b>");
        Desk.due("within 20000 ways", 1, desk.press.set(1));
        Desk.due("lines", lines - 1, desk.press.count(5));
        Desk.due("lines of the NOTE", 598, desk.press.note(0, 2));
        press("page{height:10000;rule:0;}*{lead:1000;first:1;last:1;}", "<b>a" + note + " " + "bb ".repeat(lines - 1) + "</b>");
        limit("more than 20000 ways");
    }

    private static void columnLimits() {
        String page = "page{height:12000;}*{first:1;last:1;}f{height:12000;}";
        press(page, ("<b>" + "aa ".repeat(500) + "</b>").repeat(3));
        Desk.due("1500 columns", 1, desk.press.set(1));
        Desk.due("columns", 1500, desk.press.count(4));
        press(page, ("<b>" + "aa ".repeat(500) + "</b>").repeat(3) + "<f/>");
        limit("1501 columns");
    }
}
