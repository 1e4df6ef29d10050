import java.util.ArrayList;
import java.util.List;

/** Promises 10, 13, 18, 20: columns of lines, NOTES and floats. */
public final class ColumnsTest {
    private static Desk desk;

    public static void main(String[] args) {
        gaps();
        mayEnd();
        keep();
        notes();
        rests();
        floats();
        noLines();
        allColumns();
        wrongInputs();
        Desk.close("ColumnsTest");
    }

    private static final String SHOWS = "b{show:block;}n{show:note;}f{show:float;}";

    /** Each WORD of two bytes is a line of 12000. */
    private static void press(String style, String source) {
        desk = new Desk();
        desk.style("page{width:10000;}" + SHOWS + style);
        desk.source(source);
        desk.press.set(1);
    }

    private static void columns(String call, String due) {
        StringBuilder got = new StringBuilder();
        for (int l = 0; l < desk.press.count(5); l++) {
            got.append(desk.press.line(l, 0));
        }
        Desk.due(call + "\n", due + "\n", got + "\n");
    }

    private static void tops(String call, int... due) {
        for (int l = 0; l < due.length; l++) {
            Desk.due(call + ", top of line " + l, due[l], desk.press.line(l, 1));
        }
    }

    private static void gaps() {
        press("b{above:1000;below:2000;}c{show:block;above:500;below:5000;}",
                "<b>aa bb</b><b>cc</b><b><c>dd</c></b><b/><c>ee<b> </b></c>ff");
        tops("GAPS", 0, 12000, 26000, 40000, 57000, 74000);
        press("page{height:38000;}b{above:5000;}", "<b>aa</b><b>bb</b><b>cc</b><b>dd</b>");
        columns("the GAP ahead of a column is none", "0011");
        tops("the GAP ahead of a column is none", 0, 17000, 0, 17000);
    }

    private static void mayEnd() {
        press("page{height:36000;}b{first:1;last:1;}", "<b>aa bb cc dd</b>");
        columns("three and one", "0001");
        press("page{height:36000;}", "<b>aa bb cc dd</b>");
        columns("first 2, last 2", "0011");
        press("page{height:36000;}b{first:1;last:3;}", "<b>aa bb cc dd</b>");
        columns("last 3", "0111");
        press("page{height:48000;}b{first:3;last:1;}", "<b>aa bb cc dd ee</b>");
        columns("first 3", "00001");
        press("page{height:24000;}b{first:9;last:9;}", "<b>aa bb</b><b>cc</b><b>dd ee</b>");
        columns("between PARAGRAPHS always", "00122");
        press("page{height:24000;}", "<b>aa</b><b>bb</b><b>cc</b>");
        // of equal costs the last column begins with the least line: the column of the last line costs 0
        columns("the least cost", "001");
        hyphened();
    }

    /** A column that is full but ends with a HYPHEN costs more than one that has a line less. */
    private static void hyphened() {
        for (int lead = 1000; lead <= 4000; lead += 3000) {
            desk = new Desk();
            desk.style("page{width:20000;height:" + 10 * lead + ";}b{show:block;lead:" + lead + ";hyphens:yes;first:1;last:1;tolerance:10000;}");
            desk.hyphens("ends 11 a1b");
            desk.source("<b>" + "cccc ".repeat(9) + "aaabbbb cccc</b>");
            desk.press.set(1);
            // nine lines, aaa- and bbbb, cccc: a column of ten ends with a HYPHEN (400), one of nine leaves a tenth (100)
            columns("a column that ends with a HYPHEN", "000000000111");
        }
    }

    private static void keep() {
        press("page{height:24000;}k{show:block;keep:yes;}", "<b>aa</b><k>bb</k><b>cc</b>");
        columns("keep", "011");
        press("page{height:24000;}k{show:block;keep:yes;}", "<b>aa</b><b>bb</b><k>cc</k>");
        columns("the last of all may keep", "001");
        press("page{height:24000;width:50000;}t{show:table;keep:yes;}r{show:row;}l{show:cell;}",
                "<b>aa</b><t><r><l>x</l></r><r><l>y</l></r></t>");
        columns("a table that keeps", "011");
        press("page{height:24000;width:50000;}t{show:table;}r{show:row;}l{show:cell;}",
                "<b>aa</b><t><r><l>x</l></r><r><l>y</l></r></t>");
        columns("a table that does not", "001");
    }

    private static void note(int n, int... due) {
        for (int what = 0; what < due.length; what++) {
            Desk.due("note " + n + " " + what, due[what], desk.press.note(n, what));
        }
    }

    private static void notes() {
        press("page{height:60000;}", "<b>aa b<n>x</n></b>");
        note(0, 1, 1, 2, 0, 2, 36000);
        press("page{height:60000;rule:0;}b{first:1;last:1;}", "<b>a<n/> bb c<n>x</n></b>");
        // a1 | bb | c2, NOTES 1 and 2 x: 36000 and 36000 are too much
        columns("NOTES", "001");
        note(0, 1, 0, 1, 0, 1, 48000);
        note(1, 2, 2, 2, 1, 2, 36000);
        Desk.due("NOTES", 2, desk.press.count(7));
    }

    private static void rests() {
        press("page{height:60000;rule:1000;}b{first:1;last:1;}n{lead:10000;}", "<b>a<n>vv xx yy zz</n> bb cc dd ee</b>");
        // NOTE of five lines: a1 bb and three of them leave 5000, a1 bb cc and two of them 3000
        columns("a REST", "00011");
        note(0, 1, 0, 5, 0, 2, 40000);
        Desk.due("page 2", "2 \n0 0 dd\n12000 0 ee\n30000 0 xx\n40000 0 yy\n50000 0 zz\n", desk.page(2));
        press("page{height:60000;rule:1000;}b{first:1;last:1;}n{lead:20000;}", "<b>aa b<n>vv xx</n></b>");
        Desk.due("columns of a REST alone", 3, desk.press.count(4));
        Desk.dueThrow("NOTE whose two lines do not stand", Desk.ARITHMETIC,
                () -> { desk.style("page{width:10000;height:50000;}" + SHOWS + "n{lead:20000;}"); return desk.press.set(1); });
        press("page{height:60000;rule:60000;}b{first:1;last:1;}n{lead:20000;}", "aa");
        Desk.dueThrow("a rule that is too high", Desk.ARITHMETIC,
                () -> { desk.source("a<n/>"); return desk.press.set(1); });
        press("page{height:30000;rule:10000;}n{lead:2000;}",
                "<b>a<n>vv ww xx yy zz</n></b>");
        // a1, rule, four of six lines; then rule and the two others
        note(0, 1, 0, 6, 0, 4, 22000);
        Desk.due("columns", 2, desk.press.count(4));
        Desk.due("REST alone", "2 \n26000 0 yy\n28000 0 zz\n", desk.page(2));
        press("page{height:30000;rule:10000;}n{lead:2000;}f{height:16000;}f:last{height:500000;}",
                "<b>a<n>vv ww xx yy zz</n></b><f/><f/>");
        Desk.due("REST, then floats as long as they are within", "2 \n0 =\n26000 0 yy\n28000 0 zz\n", desk.page(2));
        Desk.due("a float as high as the page", "3 \n0 =\n", desk.page(3));
        Desk.due("columns", 3, desk.press.count(4));
    }

    private static void aFloat(int f, int... due) {
        for (int what = 0; what < due.length; what++) {
            Desk.due("float " + f + " " + what, due[what], desk.press.note(f, 10 + what));
        }
    }

    private static void floats() {
        press("page{height:36000;}f{height:12000;}b{first:1;last:1;}", "<b>aa bb <f/>cc dd</b>");
        // cc calls it: aa bb cc and the float are too much, so it waits; or aa bb | cc dd and the float
        columns("a float", "0001");
        aFloat(0, 1, 2, 1, 0);
        tops("below the float", 0, 12000, 24000, 12000);
        press("page{height:36000;}f{height:40000;}", "<b>aa</b><f/><f/>");
        aFloat(0, 1, 0, 1, 0);
        aFloat(1, 2, 0, 2, 0);
        Desk.due("columns of floats alone", 3, desk.press.count(4));
        Desk.due("page 2", "2 \n0 =\n", desk.page(2));
        press("page{height:36000;}f{height:12000;}f[x]{height:0;}", "<f/><b>aa</b><f x=\"\"/><f/><f/>");
        aFloat(0, 0, 0, 0, 0);
        aFloat(1, 2, 0, 0, 12000);
        aFloat(2, 3, 0, 0, 12000);
        aFloat(3, 4, 0, 1, 0);
        Desk.due("page 1", "1 \n0 =\n12000 =\n12000 =\n24000 0 aa\n", desk.page(1));
        press("page{height:48000;rule:0;}f{height:12000;}n{lead:6000;}", "<b>a<n>xx yy zz vv ww</n><f/></b>");
        // a1, two lines of the NOTE, the float, then two more lines
        note(0, 1, 0, 6, 0, 4, 24000);
        aFloat(0, 2, 0, 0, 0);
        Desk.due("page 2", "2 \n36000 0 vv\n42000 0 ww\n", desk.page(2));
    }

    private static void noLines() {
        press("f{height:12000;}", "<f/>");
        Desk.due("floats", 1, desk.press.count(8));
        Desk.due("pages", 0, desk.press.count(3));
        Desk.due("columns", 0, desk.press.count(4));
        aFloat(0, 0, -1, -1, 0);
        Desk.dueThrow("page 1", Desk.INDEX, () -> desk.press.print(1));
    }

    /** All rows of columns of small editions, told by the document's words, against what is SET. */
    private static void allColumns() {
        int seed = 11;
        for (int n = 0; n < 300; n++) {
            StringBuilder source = new StringBuilder();
            int blocks = 1 + n % 4;
            for (int b = 0; b < blocks; b++) {
                source.append("<b>");
                seed = seed * 1103515245 + 12345;
                int words = 1 + (seed >>> 16) % 4;
                for (int w = 0; w < words; w++) {
                    seed = seed * 1103515245 + 12345;
                    int r = (seed >>> 16) % 8;
                    source.append(r < 2 ? "a<n>" + "xx ".repeat((seed >>> 20) % 5) + "</n> " : r == 2 ? "<f/>aa " : r == 3 ? "<g/>aa " : "aa ");
                }
                source.append("</b>");
            }
            int height = 36000 + n % 5 * 9000;
            desk = new Desk();
            desk.style("page{width:10000;height:" + height + ";rule:" + n % 3 * 3000 + ";}" + SHOWS + "*{first:1;last:1;}g{show:float;height:30000;}"
                    + "b{below:3000;}f{height:7000;}n{lead:" + (5000 + n % 7 * 1000) + ";}");
            desk.source(source.toString());
            boolean none = false;
            try {
                desk.press.set(1);
            } catch (ArithmeticException e) {
                none = true;
            }
            if (!none) {
                new Rows(height, n % 3 * 3000, 5000 + n % 7 * 1000).compare(source.toString());
            }
        }
    }

    /** Tries every row of columns. */
    private static final class Rows {
        private final int height;
        private final int rule;
        private final int lead;
        private final int lines = desk.press.count(5);
        private final int notes = desk.press.count(7);
        private long least = -1;
        private List<Integer> best;

        Rows(int height, int rule, int lead) {
            this.height = height;
            this.rule = rule;
            this.lead = lead;
        }

        void compare(String source) {
            go(0, 0, 0, new ArrayList<>(), 0);
            List<Integer> taken = new ArrayList<>();
            for (int l = 0; l < lines; l++) {
                if (l == 0 || desk.press.line(l, 0) != desk.press.line(l - 1, 0)) {
                    taken.add(0, l);
                }
            }
            Desk.due("columns of " + source, "" + best, "" + taken);
        }

        private void go(int from, int noteLines, int floats, List<Integer> begins, long cost) {
            if (from == lines) {
                if (least < 0 || cost < least || (cost == least && lastLess(begins))) {
                    least = cost;
                    best = begins;
                }
                return;
            }
            for (int to = from; to < lines; to++) {
                tryColumn(from, to, noteLines, floats, begins, cost);
            }
        }

        private boolean lastLess(List<Integer> begins) {
            for (int k = 0; k < begins.size() && k < best.size(); k++) {
                if (!begins.get(k).equals(best.get(k))) {
                    return begins.get(k) < best.get(k);
                }
            }
            return false;
        }

        private void tryColumn(int from, int to, int noteLines, int floats, List<Integer> begins, long cost) {
            long used = 0;
            for (int l = from; l <= to; l++) {
                boolean newBlock = l > from && desk.press.line(l, 2) != desk.press.line(l - 1, 2);
                used += 12000 + (newBlock ? 3000 : 0);
            }
            int before = 0;
            int must = 0;
            int open = 0;
            int called = 0;
            for (int k = 0; k < notes; k++) {
                int line = desk.press.note(k, 1);
                int size = desk.press.note(k, 2);
                before += line < from ? size : 0;
                if (line >= from && line <= to) {
                    called++;
                    must += open;
                    must += Math.min(2, size);
                    open = size - Math.min(2, size);
                }
            }
            int rest = before - noteLines;
            if (called == 0 && rest > 0) {
                must = 1;
                open = rest - 1;
            } else if (called > 0) {
                must += rest;
            }
            used += called > 0 || rest > 0 ? rule + (long) must * lead : 0;
            if (used > height) {
                return;
            }
            int placed = floats;
            while (placed < desk.press.count(8) && desk.press.note(placed, 11) <= to && used + floatHeight(placed) <= height) {
                used += floatHeight(placed);
                placed++;
            }
            while (open > 0 && used + lead <= height) {
                used += lead;
                must++;
                open--;
            }
            long empty = 100 * (height - used) / height;
            List<Integer> longer = new ArrayList<>(begins);
            longer.add(0, from);
            go(to + 1, noteLines + must, placed, longer, cost + (to == lines - 1 ? 0 : empty * empty));
        }

        private int floatHeight(int f) {
            // f and g are told apart by their properties
            return Math.min(height, desk.press.element(desk.press.note(f, 10), 41));
        }
    }

    private static void wrongInputs() {
        press("", "<b>a<n/><f/></b>");
        ScholarsPress x = desk.press;
        for (int what : new int[] {-1, 6, 9, 14}) {
            Desk.dueThrow("note what " + what, Desk.ARGUMENT, () -> x.note(0, what));
        }
        Desk.dueThrow("note 1", Desk.INDEX, () -> x.note(1, 0));
        Desk.dueThrow("note -1", Desk.INDEX, () -> x.note(-1, 5));
        Desk.dueThrow("float 1", Desk.INDEX, () -> x.note(1, 10));
        Desk.dueThrow("float -1", Desk.INDEX, () -> x.note(-1, 13));
        Desk.dueThrow("note what 6 without SET", Desk.ARGUMENT, () -> new ScholarsPress().note(0, 6));
    }
}
