import java.util.ArrayList;
import java.util.List;

/** Promises 13 to 16: line, spot, paragraph, judge. */
public final class LinesTest {
    private static Desk desk;

    public static void main(String[] args) {
        ratios();
        spots();
        aligned();
        indented();
        tolerances();
        costs();
        judged();
        allRows();
        wrongInputs();
        Desk.close("LinesTest");
    }

    /** A byte is 5000 wide, a GLUE 5000 with a stretch of 2500 and a shrink of 1666. */
    private static void press(String style, String source) {
        desk = new Desk();
        desk.style("b{show:block;}" + style);
        desk.source(source);
        desk.press.set(1);
    }

    private static void ratios() {
        press("page{width:50000;}b{tolerance:10000;}", "<b>aaaa bbbb cccc dddd ee</b>");
        // aaaa bbbb: 45000 of 50000, 5000 * 1000 / 2500
        Desk.due("lines", 3, desk.press.count(5));
        Desk.due("RATIO of a line that is stretched", 2000, desk.press.line(0, 4));
        Desk.due("BREAK at which it ends", 2, desk.press.line(0, 5));
        Desk.due("RATIO of the second", 2000, desk.press.line(1, 4));
        Desk.due("RATIO of the line to the END", 0, desk.press.line(2, 4));
        Desk.due("the END", 5, desk.press.line(2, 5));
        press("page{width:50000;}b{tolerance:10000;}", "<b>aaaaa bbbb c</b>");
        Desk.due("N is L", 0, desk.press.line(0, 4));
        press("page{width:49000;}b{tolerance:10000;}", "<b>aaaa bbbbb c</b>");
        Desk.due("a line that is shrunk, rounded up", -601, desk.press.line(0, 4));
        press("page{width:48334;}b{tolerance:10000;}", "<b>aaaa bbbbb c</b>");
        Desk.due("as much as can be", -1000, desk.press.line(0, 4));
        press("page{width:48333;}b{tolerance:10000;}", "<b>aaaa bbbbb c</b>");
        Desk.due("not more: one WORD in the line", 100000, desk.press.line(0, 4));
        press("page{width:10000;}", "<b>aaaa</b>");
        Desk.due("TOO LONG", -1000, desk.press.line(0, 4));
        Desk.due("TOLD", 10001, desk.press.paragraph(0, 3));
        Desk.due("COST of TOO LONG", 10010L * 10010 + 1000000000L + 10000, desk.press.paragraph(0, 0));
    }

    private static void spots() {
        press("page{width:50000;}b{tolerance:10000;}", "<b>aa bb cc dd ee</b>");
        // aa bb cc: 40000; 10000 more for two GLUES
        Desk.due("first WORD", 0, desk.press.spot(0, 0));
        Desk.due("second WORD", 15000 + 5000, desk.press.spot(0, 1));
        Desk.due("third WORD", 30000 + 10000, desk.press.spot(0, 2));
        Desk.due("in the line to the END", 15000, desk.press.spot(1, 1));
        press("page{width:50001;}b{tolerance:10000;}", "<b>aa bb cc dd ee</b>");
        Desk.due("moved, rounded down", 15000 + 5000, desk.press.spot(0, 1));
        Desk.due("moved", 30000 + 10001, desk.press.spot(0, 2));
        press("page{width:39000;}b{tolerance:10000;}", "<b>aa bb cc dd ee</b>");
        Desk.due("back", 15000 - 500, desk.press.spot(0, 1));
        Desk.due("back", 30000 - 1000, desk.press.spot(0, 2));
        press("page{width:39000;}b{tolerance:10000;}", "<b>aa bb cc</b>");
        Desk.due("back in the line to the END", 15000 - 500, desk.press.spot(0, 1));
        press("page{width:10000;}b{tolerance:10000;}", "<b>aaa bbb ccc</b>");
        Desk.due("all TOO LONG in one line", 1, desk.press.paragraph(0, 1));
        Desk.due("back by the shrink", 20000 - 1666, desk.press.spot(0, 1));
        Desk.due("back by the shrinks", 40000 - 3332, desk.press.spot(0, 2));
        press("page{width:25000;}b{tolerance:10000;}", "<b>aaa-bb cc</b>");
        Desk.due("what is left of a WORD", 0, desk.press.spot(1, 0));
        Desk.due("and the next", 15000, desk.press.spot(1, 1));
    }

    private static void aligned() {
        String source = "<b>aa bb cc</b>";
        press("page{width:30001;}b{align:left;left:7;tolerance:10000;}", source);
        Desk.due("left", 7, desk.press.line(0, 6));
        Desk.due("left does not move WORDS", 15007, desk.press.spot(0, 1));
        Desk.due("RATIO by L", (30001 - 7 - 25000) * 1000 / (30001 - 7), desk.press.line(0, 4));
        press("page{width:30001;}b{align:right;left:7;right:4;tolerance:10000;}", source);
        Desk.due("right", 30001 - 4 - 25000, desk.press.line(0, 6));
        Desk.due("right, the line to the END", 30001 - 4 - 10000, desk.press.line(1, 6));
        Desk.due("right moves WORDS", 30001 - 4 - 10000, desk.press.spot(1, 0));
        press("page{width:30001;}b{align:middle;tolerance:10000;}", source);
        Desk.due("middle, rounded down", 2500, desk.press.line(0, 6));
        Desk.due("middle, the line to the END", 10000, desk.press.line(1, 6));
        press("page{width:10000;}b{align:right;}", "<b>aaa</b>");
        Desk.due("right, N above L", 0, desk.press.line(0, 6));
        Desk.due("COST: Z is 0", 10010L * 10010 + 1000000000L + 5000, desk.press.paragraph(0, 0));
    }

    private static void indented() {
        press("page{width:30000;}b{indent:15000;left:1000;right:2000;tolerance:10000;}c{show:block;left:100000;}",
                "<b>aa bb cc</b><c>x</c>");
        Desk.due("width", 27000, desk.press.paragraph(0, 4));
        Desk.due("first line", 16000, desk.press.line(0, 6));
        Desk.due("second line", 1000, desk.press.line(1, 6));
        Desk.due("the first line has less room", 1, desk.press.line(0, 5));
        Desk.due("at least 1000", 1000, desk.press.paragraph(1, 4));
        press("page{width:30000;}b{indent:29500;align:right;}", "<b>a</b>");
        Desk.due("an indent leaves at least 1000: TOO LONG by 4000", 10010L * 10010 + 1000000000L + 4000, desk.press.paragraph(0, 0));
        press("page{width:30000;}b{left:1000;}c{show:block;left:200;right:30;}i{left:5;}", "<b>x<i><c>y</c></i></b>");
        Desk.due("within two BLOCKS", 30000 - 1230, desk.press.paragraph(1, 4));
        Desk.due("where it begins", 1200, desk.press.line(1, 6));
        press("page{width:15000;}n{show:note;indent:9000;}", "<n>y</n>");
        Desk.due("NOTES have no indent", 1, desk.press.note(0, 2));
        press("n{show:note;}*{indent:9000;}", "<b>x<n>y</n></b>");
        Desk.due("NOTES have no indent: width", 300000, desk.press.paragraph(1, 4));
        Desk.due("NOTES have no indent", "1 \n0 9000 x1\n388000 0 1 y\n", desk.page(1));
    }

    private static void tolerances() {
        // aaaa bbbb has RATIO 2000, BADNESS 800
        press("page{width:50000;}b{tolerance:800;}", "<b>aaaa bbbb cc</b>");
        Desk.due("BADNESS within tolerance", 800, desk.press.paragraph(0, 3));
        press("page{width:50000;}b{tolerance:799;}", "<b>aaaa bbbb ccccccc</b>");
        Desk.due("10000 else", 10000, desk.press.paragraph(0, 3));
        press("page{width:50000;}b{tolerance:1;}", "<b>aaaa bbbb</b>");
        Desk.due("the line to the END has none", 1, desk.press.paragraph(0, 3));
        press("page{width:50000;}", "<b>aaaa bbbb ccccccccccc</b>");
        Desk.due("10001 else", 10001, desk.press.paragraph(0, 3));
    }

    private static void costs() {
        press("page{width:50000;}b{tolerance:10000;}", "<b>aaaa bbbb cccc dddd ee</b>");
        // CLASS 3 behind 1, 3 behind 3, 1 behind 3
        Desk.due("COST", 810 * 810 + 10000 + 810 * 810 + 100 + 10000, desk.press.paragraph(0, 0));
        press("page{width:50000;}b{tolerance:10000;}", "<b>aaaa aaaa-aaaaaaaaa-aaaaaaaaa-bb</b>");
        // aaaa aaaa- | aaaaaaaaa- | aaaaaaaaa- | bb
        Desk.due("lines", 4, desk.press.paragraph(0, 1));
        Desk.due("COST of DASHES", 1000 + 1000 + 3000 + 1000 + 3000 + 100 + 5000, desk.press.paragraph(0, 0));
        press("page{width:50000;}b{tolerance:10000;hyphens:yes;}", "<b>x</b>");
        desk.hyphens("ends 11 a1b b1c");
        desk.source("<b>aaaaaaaaabbbbbbbbbcc</b>");
        desk.press.set(1);
        // aaaaaaaaa- | bbbbbbbbb- | cc
        Desk.due("lines", 3, desk.press.paragraph(0, 1));
        Desk.due("COST of HYPHENS", 2600 + 2600 + 3000 + 100 + 5000, desk.press.paragraph(0, 0));
    }

    private static void judged() {
        press("page{width:50000;}b{tolerance:800;}", "<b>aaaa bbbb cc dd</b>");
        Desk.due("TOLD", 800, desk.press.paragraph(0, 3));
        Desk.due("the row that was taken", desk.press.paragraph(0, 0), desk.judge(0, "2"));
        Desk.due("COST", 810 * 810 + 10000 + 100 + 10000, desk.judge(0, "\n2 "));
        Desk.due("BADNESS above the tolerance", -1, desk.judge(0, "1"));
        Desk.due("TOO LONG", -1, desk.judge(0, ""));
        String[] broken = {"0", "2 2", "3 2", "4", "1 2 9999999", "12345678", "2 x", "2,", "-1", " 1\t"};
        int[] places = {0, 2, 2, 0, 4, 0, 2, 1, 0, 2};
        for (int k = 0; k < broken.length; k++) {
            String row = broken[k];
            Desk.dueThrow("judge " + row, Desk.BROKEN, () -> desk.judge(0, row));
            Desk.due("place of " + row, places[k], desk.press.place());
            Desk.due("the TAPE is empty", 0, desk.tapeLength());
        }
        Desk.due("judge", -1, desk.judge(0, "1 2 3"));
        Desk.due("place", -1, desk.press.place());
        press("page{width:10000;}", "<b>aaaa bb</b>");
        Desk.due("10001 allows all", 10010L * 10010 + 1000000000L + 10000 + 100, desk.judge(0, "1"));
        Desk.due("TOO LONG in one", 10010L * 10010 + 1000000000L + 25000 - 1666, desk.judge(0, ""));
        desk.font("width\"a\"100;");
        desk.style("page{width:1000000;}");
        desk.source("x");
        Desk.due("of what was SET", 10010L * 10010 + 1000000000L + 10000 + 100, desk.judge(0, "1"));
    }

    /** Of all rows of BREAKS that judge allows, that of the least COST and then of the least last BREAKS is taken. */
    private static void allRows() {
        int seed = 7;
        String[] sorts = {"tolerance:200;", "tolerance:10000;", "align:left;", "tolerance:1;indent:5000;", "hyphens:yes;tolerance:2000;"};
        for (int n = 0; n < 150; n++) {
            StringBuilder text = new StringBuilder();
            int words = 2 + (n % 8);
            for (int k = 0; k < words; k++) {
                seed = seed * 1103515245 + 12345;
                int r = seed >>> 16;
                text.append("abba-bbaabaa-abab".substring(r % 7, r % 7 + 1 + r / 7 % 6)).append(' ');
            }
            desk = new Desk();
            desk.style("page{width:" + (10000 + n % 5 * 7000) + ";height:1000000;}b{show:block;" + sorts[n % 5] + "}");
            desk.hyphens("ends 11 a1b");
            desk.source("<b>" + text + "</b>");
            desk.press.set(1);
            compareRows(text.toString());
        }
    }

    private static void compareRows(String text) {
        int count = (int) desk.press.paragraph(0, 2) - 1;
        if (count > 11) {
            return;
        }
        long least = -1;
        List<Integer> best = null;
        for (int mask = 0; mask < 1 << count; mask++) {
            List<Integer> row = new ArrayList<>();
            StringBuilder tape = new StringBuilder();
            for (int k = 1; k <= count; k++) {
                if ((mask >> (k - 1) & 1) == 1) {
                    row.add(0, k);
                    tape.append(k).append(' ');
                }
            }
            long cost = desk.judge(0, tape.toString());
            if (cost >= 0 && (least < 0 || cost < least || (cost == least && lastLess(row, best)))) {
                least = cost;
                best = row;
            }
        }
        Desk.due("least COST of " + text, least, desk.press.paragraph(0, 0));
        List<Integer> taken = new ArrayList<>();
        for (int l = 0; l < desk.press.count(5) - 1; l++) {
            taken.add(0, desk.press.line(l, 5));
        }
        Desk.due("row of " + text, "" + best, "" + taken);
    }

    private static boolean lastLess(List<Integer> a, List<Integer> b) {
        for (int k = 0; k < a.size() && k < b.size(); k++) {
            if (!a.get(k).equals(b.get(k))) {
                return a.get(k) < b.get(k);
            }
        }
        return a.size() < b.size();
    }

    private static void wrongInputs() {
        press("page{width:50000;}t{show:table;}r{show:row;}l{show:cell;}", "<b>aa bb</b><t><r><l>x y</l></r></t>");
        ScholarsPress x = desk.press;
        Desk.dueThrow("line -1", Desk.INDEX, () -> x.line(-1, 0));
        Desk.dueThrow("line 2", Desk.INDEX, () -> x.line(2, 0));
        Desk.dueThrow("line what 7", Desk.ARGUMENT, () -> x.line(9, 7));
        Desk.dueThrow("line what -1", Desk.ARGUMENT, () -> x.line(0, -1));
        Desk.dueThrow("spot of no line", Desk.INDEX, () -> x.spot(2, 0));
        Desk.dueThrow("spot of no line", Desk.INDEX, () -> x.spot(-1, 0));
        Desk.dueThrow("spot of no WORD", Desk.INDEX, () -> x.spot(0, 2));
        Desk.dueThrow("spot of no WORD", Desk.INDEX, () -> x.spot(0, -1));
        Desk.dueThrow("a row has none", Desk.INDEX, () -> x.spot(1, 0));
        int[] row = {0, 12000, -1, 0, 0, 0, 0};
        for (int what = 0; what < 7; what++) {
            Desk.due("a row, " + what, row[what], x.line(1, what));
        }
        Desk.due("PARAGRAPH of a line", 0, x.line(0, 2));
        Desk.dueThrow("paragraph 2", Desk.INDEX, () -> x.paragraph(2, 0));
        Desk.dueThrow("paragraph -1", Desk.INDEX, () -> x.paragraph(-1, 0));
        Desk.dueThrow("paragraph what 7", Desk.ARGUMENT, () -> x.paragraph(0, 7));
        Desk.dueThrow("paragraph what -1", Desk.ARGUMENT, () -> x.paragraph(9, -1));
        ScholarsPress none = new ScholarsPress();
        Desk.dueThrow("line what 7 without SET", Desk.ARGUMENT, () -> none.line(0, 7));
        Desk.dueThrow("paragraph what 7 without SET", Desk.ARGUMENT, () -> none.paragraph(0, 7));
        long[] due = {100, 1, 2, 200, 50000, 5, 0};
        for (int what = 0; what < 7; what++) {
            Desk.due("paragraph 0, " + what, due[what], x.paragraph(0, what));
        }
    }
}
