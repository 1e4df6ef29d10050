/** Terms, 6 WIDTHS: each sentence that names a boundary. */
public final class Terms6WidthsTest {
    private static Desk desk;

    public static void main(String[] args) {
        paragraphs();
        atLeast1000();
        notes();
        dashes();
        hyphens();
        joins();
        kerns();
        atLeast0();
        glue();
        breaks();
        hyphenWidth();
        Desk.close("Terms6WidthsTest");
    }

    private static void press(String style, String source) {
        desk = new Desk(Desk.SHOWS + style, source).set(1);
    }

    private static void paragraphs() {
        Desk.about("A PARAGRAPH's: that of a column less left and right of all ELEMENTS that are BLOCKS and that it is in");
        press("page{width:100000;}b{left:10;right:200;}i{left:5000;right:5000;}k{left:1;}x{left:2;}m{left:7;}d{depth:1;}",
                "<b>a<b>b<i>c<b>d</b></i></b></b>e<k/><d/><m>f</m><x/>");
        Desk.due("widths", "99790 99580 99370 100000 99999 100000 99998", desk.paragraphs(4));
        Desk.due("where they begin", "10 20 30 0 1 0 2", desk.lines(6));
        press("page{width:100000;}t{left:10;right:20;}b{left:100;}r{left:1000;}c{left:1000;right:1000;}", "<b><t><r><c>a</c></r></t></b>");
        Desk.due("a table in a BLOCK; rows and cells are none", "99870", desk.paragraphs(4));
        press("page{width:100000;}h{left:9;}n{left:9;}f{left:9;}e{left:9;}", "<h/>a<f/><e/>");
        Desk.due("no BLOCKS", "100000", desk.paragraphs(4));
    }

    private static void atLeast1000() {
        Desk.about("at least 1000 each");
        press("page{width:10000;}b{left:4500;right:4499;}", "<b>a</b>");
        Desk.due("1001", "1001", desk.paragraphs(4));
        press("page{width:10000;}b{left:4500;right:4500;}", "<b>a</b>");
        Desk.due("1000", "1000", desk.paragraphs(4));
        press("page{width:10000;}b{left:4500;right:4501;}", "<b>a</b>");
        Desk.due("not 999", "1000", desk.paragraphs(4));
        press("page{width:10000;}b{left:500000;right:500000;}", "<b><b>a</b></b>");
        Desk.due("far below 0", "1000", desk.paragraphs(4));
        Desk.due("where it begins", "1000000", desk.lines(6));
        press("page{width:10000;}t{left:9500;}", "<t><r><c>a</c></r></t>");
        Desk.due("a table's", "1000", desk.paragraphs(4));
        press("page{width:10000;}t{left:9000;}", "<t><r><c>a</c><c>b</c></r></t>");
        Desk.due("cells of a table of 1000", "1000 1000", desk.paragraphs(4));
        press("page{width:10000;}k{left:1000;}d{depth:1;}g{depth:2;}", "<k/><d/><g/>");
        Desk.due("rows of contents", "9000 1000", desk.paragraphs(4));
    }

    private static void notes() {
        Desk.about("of a NOTE that of a column");
        press("page{width:100000;}b{left:10000;right:10000;}n{left:7;right:7;}", "<b>a<n>b</n></b>");
        Desk.due("widths", "80000 100000", desk.paragraphs(4));
    }

    private static int breaksOf(String style, String hyphens, String words) {
        desk = new Desk(Desk.SHOWS + style, "<b>" + words + "</b>");
        desk.hyphens(hyphens);
        desk.press.set(1);
        return (int) desk.press.paragraph(0, 2);
    }

    private static void dashes() {
        Desk.about("A WORD is PARTED behind each - that is not its last byte (a DASH)");
        String[] words = {"a 1", "- 1", "a- 1", "-a 2", "-- 2", "a-b 2", "a--b 3", "-a-b- 3", "a-<i>b</i> 2", "a<i>-</i>b 2", "---- 4"};
        for (String word : words) {
            int cut = word.lastIndexOf(' ');
            Desk.due("BREAKS of " + word.substring(0, cut), Integer.parseInt(word.substring(cut + 1)), breaksOf("", "", word.substring(0, cut)));
        }
        Desk.due("the last byte of a WORD", 2, breaksOf("", "", "a- b"));
        Desk.due("the first byte of a WORD", 3, breaksOf("", "", "a -b"));
        Desk.due("a - by itself", 3, breaksOf("", "", "a - b"));
    }

    private static void hyphens() {
        Desk.about("if hyphens is yes (of the BLOCK, the NOTE, the cell: so for all that is of a PARAGRAPH), at the PLACES of each longest row of letters in it (a HYPHEN)");
        String places = "ends 11 a1b";
        Desk.due("no", 1, breaksOf("", places, "ab"));
        Desk.due("yes", 2, breaksOf("b{hyphens:yes;}", places, "ab"));
        Desk.due("of the BLOCK", 2, breaksOf("b{hyphens:yes;}i{hyphens:no;}", places, "<i>ab</i>"));
        Desk.due("not of what is in it", 1, breaksOf("i{hyphens:yes;}", places, "<i>ab</i>"));
        Desk.due("a row of letters of two sizes", 2, breaksOf("b{hyphens:yes;}i{size:20000;}", places, "a<i>b</i>"));
        Desk.due("rows of letters", 4, breaksOf("b{hyphens:yes;}", places, "ab,ab'Ab"));
        Desk.due("rows of letters parted by DASHES", 4, breaksOf("b{hyphens:yes;}", places, "ab-ab"));
        Desk.due("a digit parts rows", 1, breaksOf("b{hyphens:yes;}", places, "a1b"));
        Desk.due("letters of a row count, not of the WORD", 1, breaksOf("b{hyphens:yes;}", "ends 22 a1b", "xx1ab1xx"));
        desk = new Desk(Desk.SHOWS + "n{hyphens:yes;}c{hyphens:yes;}", "ab<n>ab</n><t><r><c>ab</c></r></t>");
        desk.hyphens(places);
        desk.press.set(1);
        Desk.due("of the cell, of the NOTE", "1 2 3", desk.paragraphs(2));
        desk = new Desk(Desk.SHOWS + "k{hyphens:yes;}d{depth:1;}", "<k/><d>ab</d>");
        desk.hyphens(places);
        desk.press.set(1);
        Desk.due("of the contents", "3 1", desk.paragraphs(2));
    }

    /** Where the second WORD begins less the GLUE ahead of it. */
    private static long width(String font, String style, String word) {
        desk = new Desk("page{width:1000000;}" + Desk.SHOWS + style, "<b>" + word + " x</b>");
        desk.font("width\" \"0;" + font);
        desk.hyphens("ends 11 p1q");
        desk.press.set(1);
        return desk.press.spot(0, 1);
    }

    private static void joins() {
        Desk.about("from the left, two neighbours of one size that have a join are one SIGN, else each byte is one");
        String join = "join\"f\"\"f\"700;join\"f\"\"i\"300;";
        Desk.due("ff", 7000, width(join, "", "ff"));
        Desk.due("fff", 12000, width(join, "", "fff"));
        Desk.due("ffff", 14000, width(join, "", "ffff"));
        Desk.due("ffi: ff first", 12000, width(join, "", "ffi"));
        Desk.due("afi", 8000, width(join, "", "afi"));
        Desk.due("two sizes", 15000, width(join, "i{size:20000;}", "f<i>f</i>"));
        Desk.due("one size in two ELEMENTS", 7000, width(join, "", "f<i>f</i>"));
        Desk.due("not over a HYPHEN", 10000, width("join\"p\"\"q\"700;", "b{hyphens:yes;}", "pq"));
        Desk.due("without HYPHENS", 7000, width("join\"p\"\"q\"700;", "", "pq"));
        Desk.due("not over a DASH", 10000, width("join\"-\"\"q\"700;", "", "-q"));
        Desk.due("ahead of a DASH", 7000, width("join\"q\"\"-\"700;", "", "q-"));
    }

    private static void kerns() {
        Desk.about("kerns of neighbouring SIGNS of one size (last byte of the one, first of the other; as widths, - if it is below 0)");
        Desk.due("ab", 11000, width("kern\"a\"\"b\"100;", "", "ab"));
        Desk.due("ba", 10000, width("kern\"a\"\"b\"100;", "", "ba"));
        Desk.due("aaa", 17000, width("kern\"a\"\"a\"100;", "", "aaa"));
        Desk.due("join, then b: its last byte", 7000 + 1000 + 5000, width("join\"f\"\"i\"700;kern\"i\"\"b\"100;kern\"f\"\"b\"200;", "", "fib"));
        Desk.due("a, then join: its first byte", 5000 + 2000 + 7000, width("join\"f\"\"i\"700;kern\"a\"\"i\"100;kern\"a\"\"f\"200;", "", "afi"));
        Desk.due("no kern within a join", 7000, width("join\"f\"\"i\"700;kern\"f\"\"i\"100;", "", "fi"));
        Desk.due("join and join", 7000 + 1000 + 7000, width("join\"f\"\"i\"700;kern\"i\"\"f\"100;", "", "fifi"));
        Desk.due("two sizes", 15000, width("kern\"a\"\"b\"100;", "i{size:20000;}", "a<i>b</i>"));
        Desk.due("not over a HYPHEN", 10000, width("kern\"p\"\"q\"100;", "b{hyphens:yes;}", "pq"));
        Desk.due("not over a DASH", 10000, width("kern\"-\"\"q\"100;", "", "-q"));
        Desk.due("rounded down", 999 + 999 + 1, width("kern\"a\"\"b\"1;", "b{size:1999;}", "ab"));
        Desk.due("below 0: rounded down, then -", 999 + 999 - 1, width("kern\"a\"\"b\"-1;", "b{size:1999;}", "ab"));
        Desk.due("below 0: nothing is left", 500 + 500, width("kern\"a\"\"b\"-0;", "b{size:1001;}", "ab"));
    }

    private static void atLeast0() {
        Desk.about("in all at least 0");
        Desk.due("0", 0, width("width\"a\"250;width\"b\"250;kern\"a\"\"b\"-500;", "", "ab"));
        Desk.due("below", 0, width("width\"a\"0;width\"b\"0;kern\"a\"\"b\"-500;", "", "ab"));
        Desk.due("one more", 10, width("width\"a\"250;width\"b\"251;kern\"a\"\"b\"-500;", "", "ab"));
        Desk.due("of each PART by itself", 5000, width("width\"a\"0;width\"-\"0;kern\"a\"\"-\"-500;", "", "a-q"));
    }

    /** RATIO of the first line of a b cc in a size of 1000; it ends behind b. */
    private static int ratio(int blank, int a, int b) {
        desk = new Desk("page{width:10000;}b{show:block;size:1000;tolerance:10000;}", "<b>a b cc</b>");
        desk.font("width\" \"" + blank + ";width\"a\"" + a + ";width\"b\"" + b + ";width\"c\"5000;");
        desk.press.set(1);
        Desk.due("BREAK of the first line", 2, desk.press.line(0, 5));
        return desk.press.line(0, 4);
    }

    private static void glue() {
        Desk.about("GLUE between WORDS: the width of byte 32 in the blank's size, stretch a half, shrink a third of it, rounded down.");
        Desk.due("5: a stretch of 2", 10 * 1000 / 2, ratio(5, 4995, 4990));
        Desk.due("4: a stretch of 2", 10 * 1000 / 2, ratio(4, 4996, 4990));
        Desk.due("3: a stretch of 1", 10 * 1000 / 1, ratio(3, 4997, 4990));
        Desk.due("2: a stretch of 1", 10 * 1000 / 1, ratio(2, 4998, 4990));
        Desk.due("1: none", 100000, ratio(1, 4999, 4990));
        Desk.due("5: a shrink of 1", -1000, ratio(5, 5000, 4996));
        Desk.due("6: a shrink of 2", -500, ratio(6, 5000, 4995));
        Desk.due("3: a shrink of 1", -1000, ratio(3, 5000, 4998));
        desk = new Desk("page{width:1000000;}b{show:block;size:2001;}", "<b>a b</b>").set(1);
        Desk.due("in the blank's size, rounded down", 1000 + 1000, desk.press.spot(0, 1));
    }

    private static void breaks() {
        Desk.about("BREAKS are numbered from 1 on: GLUES, HYPHENS, DASHES in order; the last one is the END.");
        desk = new Desk("page{width:10000;}b{show:block;hyphens:yes;tolerance:10000;}", "<b>p q-pq p</b>");
        desk.font("width\"-\"0;width\"p\"1000;width\"q\"1000;");
        desk.hyphens("ends 11 p1q");
        desk.press.set(1);
        Desk.due("GLUE, DASH, HYPHEN, GLUE, END", "1 2 3 4 5", desk.lines(5));
        Desk.due("text", "p|q-|p-|q|p", desk.texts());
        Desk.due("BREAKS", 5, desk.press.paragraph(0, 2));
        Desk.due("of one WORD the END alone", "1", new Desk("", "a").set(1).lines(5));
    }

    private static void hyphenWidth() {
        Desk.about("At a HYPHEN that is broken the line has a - more, of the size of the byte ahead.");
        desk = new Desk("page{width:30000;}b{show:block;hyphens:yes;tolerance:10000;}i{size:20000;}", "<b><i>p</i>qqqqqq</b>");
        desk.font("width\"-\"1000;width\"p\"500;");
        desk.hyphens("ends 11 p1q");
        desk.press.set(1);
        // p in 20000 is 10000, its - 20000
        Desk.due("as wide as the line", 0, desk.press.line(0, 4));
        Desk.due("text", "p-|qqqqqq", desk.texts());
        desk.style("page{width:20000;}b{show:block;hyphens:yes;tolerance:10000;}i{size:20000;}");
        desk.source("<b>p<i>qq</i></b>");
        desk.press.set(1);
        // p in 10000 is 5000, its - 10000
        Desk.due("5000 are left", 100000, desk.press.line(0, 4));
        Desk.about("At a HYPHEN that is broken (one that is not has none)");
        desk.style("page{width:100000;}b{show:block;hyphens:yes;}");
        desk.source("<b>pq x</b>");
        desk.press.set(1);
        Desk.due("no - in the line", 5000 + 5000 + 5000, desk.press.spot(0, 1));
        Desk.due("text", "pq x", desk.texts());
    }
}
