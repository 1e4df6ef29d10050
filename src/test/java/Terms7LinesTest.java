/**
 * Terms, 7 LINES: each sentence that names a boundary. In a size of 1000 a byte is as wide as its
 * NUMBER in FONT; a blank of 2000 has a stretch of 1000, one of 3000 a shrink of 1000, so that RATIO
 * is what is missing or too much.
 */
public final class Terms7LinesTest {
    private static final long TOO_LONG = 10010L * 10010L + 1000000000L;
    private static Desk desk;

    public static void main(String[] args) {
        room();
        stretched();
        hundredThousand();
        toTheEnd();
        shrunk();
        notJust();
        badness();
        classes();
        costs();
        tooLong();
        tolerances();
        leastCost();
        leastLastBreak();
        noneIsLess();
        thenTheOneAhead();
        moved();
        movedBack();
        aligned();
        tableColumns();
        tableWidths();
        tableRests();
        severalTables();
        tableRows();
        Desk.close("Terms7LinesTest");
    }

    private static final String FINE = "page{width:10000;}" + Desk.SHOWS + "b{size:1000;tolerance:10000;}";

    private static String font(Object... pairs) {
        StringBuilder text = new StringBuilder();
        for (int k = 0; k < pairs.length; k += 2) {
            text.append("width\"").append(pairs[k]).append("\"").append(pairs[k + 1]).append(";");
        }
        return text.toString();
    }

    private static void press(String style, String font, String words) {
        desk = new Desk(FINE + style, "<b>" + words + "</b>");
        desk.font(font);
        desk.press.set(1);
    }

    /** RATIO of a line of two WORDS that together miss so much of 10000. */
    private static int ratio(String style, int blank, int missing) {
        int words = 10000 - blank - missing;
        press(style, font(" ", blank, "a", words / 2, "b", words - words / 2, "c", 5000), "a b cc");
        Desk.due("the first line ends behind b", 2, desk.press.line(0, 5));
        return desk.press.line(0, 4);
    }

    private static void room() {
        Desk.about("L the PARAGRAPH's width, less indent for the first line (at least 1000; NOTES, cells: no indent)");
        press("b{indent:4000;}", font("a", 2000), "aaa aaa aaaaa");
        Desk.due("6000, then 10000", "0 100000 0", desk.lines(4));
        Desk.due("where they begin", "4000 0 0", desk.lines(6));
        press("b{indent:9000;align:right;}", font("a", 1000), "a");
        Desk.due("1000: N is L", "9000", desk.lines(6));
        press("b{indent:9001;align:right;}", font("a", 999), "a");
        Desk.due("not 999: 1 to the right", "9002", desk.lines(6));
        press("b{indent:500000;align:right;}", font("a", 999), "a");
        Desk.due("1000 of far below 0", "500001", desk.lines(6));
        press("b{indent:9500;}", font("a", 1001), "a");
        Desk.due("TOO LONG by 1", TOO_LONG + 1, desk.press.paragraph(0, 0));
        desk = new Desk(Desk.SHOWS + "*{indent:9000;}page{width:10000;}n{align:right;}c{align:right;}", "<b>a<n>b</n></b><t><r><c>a</c></r></t>").set(1);
        Desk.due("a NOTE", 2, desk.press.note(0, 2));
        Desk.due("a cell and a NOTE", "1 \n0 9000 a1\n12000 5000 a\n376000 5000 1\n388000 5000 b\n", desk.page(1));
    }

    private static void stretched() {
        Desk.about("RATIO: N below L: (L - N) * 1000 / A rounded down");
        for (int missing : new int[] {1, 215, 216, 500, 501, 999, 1000, 1001, 3000}) {
            Desk.due("A is 1000", missing, ratio("", 2000, missing));
        }
        Desk.due("A is 300", 3, ratio("", 600, 1));
        Desk.due("A is 300", 6, ratio("", 600, 2));
        Desk.due("A is 1001", 0, ratio("", 2002, 1));
        Desk.due("A is 1001", 999, ratio("", 2002, 1000));
        Desk.about("A and Z the stretch and shrink of its GLUES together (a GLUE that is broken is nothing)");
        press("", font(" ", 2000, "a", 2000, "b", 5000), "a a a bb");
        Desk.due("two GLUES and none at its end", 0, desk.press.line(0, 4));
        press("", font(" ", 2000, "a", 1000, "b", 5000), "a a a bb");
        Desk.due("3000 of 2000", 1500, desk.press.line(0, 4));
    }

    private static void hundredThousand() {
        Desk.about("at most 100000 (100000 if A is 0)");
        Desk.due("99 of 1", 99000, ratio("", 2, 99));
        Desk.due("100 of 1", 100000, ratio("", 2, 100));
        Desk.due("101 of 1", 100000, ratio("", 2, 101));
        Desk.due("1 of 0", 100000, ratio("", 1, 1));
        press("", font("a", 5000), "a aa");
        Desk.due("a WORD alone", 100000, desk.press.line(0, 4));
        press("", font("a", 5000), "aa aa");
        Desk.due("N = L: 0", 0, desk.press.line(0, 4));
    }

    private static void toTheEnd() {
        Desk.about("the line to the END: 0; N = L: 0");
        press("", font(" ", 2000, "a", 1), "a a");
        Desk.due("far below L", 0, desk.press.line(0, 4));
        press("", font("a", 1), "a");
        Desk.due("without GLUE", 0, desk.press.line(0, 4));
        press("", font(" ", 2000, "a", 4000), "a a");
        Desk.due("N = L", 0, desk.press.line(0, 4));
        press("", font(" ", 3000, "a", 3500, "b", 3501), "a b");
        Desk.due("N above L by 1", -1, desk.press.line(0, 4));
        press("", font(" ", 3000, "a", 4000), "a a");
        Desk.due("N above L by Z", -1000, desk.press.line(0, 4));
        Desk.due("lines", 1, desk.press.count(5));
    }

    private static void shrunk() {
        Desk.about("N above L: - (N - L) * 1000 / Z, the quotient rounded up, if N - L is at most Z; else the line is TOO LONG: -1000.");
        for (int over : new int[] {1, 499, 500, 501, 999, 1000}) {
            Desk.due("Z is 1000", -over, ratio("", 3000, -over));
        }
        Desk.due("Z is 666", -2, ratio("", 2000, -1));
        Desk.due("Z is 666", -1000, ratio("", 2000, -666));
        Desk.due("Z is 999", -2, ratio("", 2999, -1));
        Desk.due("Z is 999", -1000, ratio("", 2999, -999));
        press("", font(" ", 3000, "a", 4000, "b", 4001), "a b");
        Desk.due("one more than Z: not in one line", 2, desk.press.count(5));
        press("", font(" ", 0, "a", 5000, "b", 1), "aab");
        Desk.due("TOO LONG", -1000, desk.press.line(0, 4));
        Desk.due("TOLD", 10001, desk.press.paragraph(0, 3));
    }

    private static void notJust() {
        Desk.about("If align is not just: A is L, Z is 0.");
        for (String align : new String[] {"left", "right", "middle"}) {
            Desk.due(align, 1000 * 1000 / 10000, ratio("b{align:" + align + ";}", 2000, 1000));
            Desk.due(align + ", rounded down", 0, ratio("b{align:" + align + ";}", 2000, 9));
            Desk.due(align + ", rounded down", 1, ratio("b{align:" + align + ";}", 2000, 10));
            press("b{align:" + align + ";}", font("a", 5000, "b", 4999), "b aa");
            Desk.due(align + ", without GLUE", 500, desk.press.line(0, 4));
            press("b{align:" + align + ";}", font(" ", 3000, "a", 3500, "b", 3501), "a b");
            Desk.due(align + ", N above L by 1", 2, desk.press.count(5));
            press("b{align:" + align + ";indent:5000;}", font(" ", 1000, "a", 2000, "b", 5000), "a a bb");
            Desk.due(align + ", L is that of the first line", 0, desk.press.line(0, 4));
            press("b{align:" + align + ";indent:4000;}", font(" ", 1000, "a", 2000, "b", 5000), "a a bb");
            Desk.due(align + ", L is that of the first line", 1000 * 1000 / 6000, desk.press.line(0, 4));
        }
    }

    /** COST of a line that misses so much, and of one to the END. */
    private static long cost(int blank, int missing) {
        ratio("", blank, missing);
        return desk.press.paragraph(0, 0);
    }

    private static void badness() {
        Desk.about("BADNESS: 100 r r r / 1000000000 of its size r, rounded down, at most 10000; COST: (10 + BADNESS) squared");
        Desk.due("215: 0", 100 + 100, cost(2000, 215));
        Desk.due("216: 1", 121 + 100, cost(2000, 216));
        Desk.due("271: 1", 121 + 100, cost(2000, 271));
        Desk.due("272: 2", 144 + 100, cost(2000, 272));
        Desk.due("1000: 100", 12100 + 100, cost(2000, 1000));
        Desk.due("-215: 0", 100 + 100, cost(3000, -215));
        Desk.due("-216: 1", 121 + 100, cost(3000, -216));
        Desk.due("-1000: 100", 12100 + 100, cost(3000, -1000));
        // CLASS 3 behind 1 and ahead of 1
        Desk.due("4600: 9733", 9743L * 9743 + 10000 + 100 + 10000, cost(2000, 4600));
        Desk.due("4641: 9996", 10006L * 10006 + 10000 + 100 + 10000, cost(2000, 4641));
        Desk.due("4642: 10000", 10010L * 10010 + 10000 + 100 + 10000, cost(2000, 4642));
        Desk.due("5000: 10000", 10010L * 10010 + 10000 + 100 + 10000, cost(2000, 5000));
    }

    /** COST of two lines and the one to the END, all with a GLUE of 3000 but that. */
    private static long twoLines(int first, int second) {
        press("", font(" ", 3000, "a", 3000, "b", 4000 - first, "c", 3000, "d", 4000 - second, "e", 5000), "a b c d ee");
        Desk.due("lines", "2 4 5", desk.lines(5));
        return desk.press.paragraph(0, 0);
    }

    private static void classes() {
        Desk.about("CLASS: 0 below -500, 1 to 500, 2 to 1000, 3 above; 10000 more if its CLASS and that of the line before (1 ahead of the first) differ by more than 1");
        Desk.due("1000: CLASS 2", 12100 + 100, cost(2000, 1000));
        Desk.due("1001: CLASS 3 behind 1, 1 behind 3", 12100 + 10000 + 100 + 10000, cost(2000, 1001));
        // 1200 of a stretch of 1500 is 800: BADNESS 51
        Desk.due("-500 and 800: CLASSES 1 and 2", 484 + 3721 + 100, twoLines(-500, 1200));
        Desk.due("-501 and 800: CLASSES 0 and 2", 484 + 3721 + 10000 + 100, twoLines(-501, 1200));
        Desk.due("-501 and 500: CLASSES 0 and 1", 484 + 484 + 100, twoLines(-501, 750));
        Desk.due("-501 and 501: CLASSES 0 and 2", 484 + 484 + 10000 + 100, twoLines(-501, 752));
        Desk.due("800 and -501: CLASSES 2 and 0", 3721 + 484 + 10000 + 100, twoLines(1200, -501));
        Desk.due("800 and -500: CLASSES 2 and 1", 3721 + 484 + 100, twoLines(1200, -500));
        // 1502 of 1500 is 1001, of BADNESS 100
        Desk.due("1001 and 1000: CLASSES 3 and 2", 12100 + 10000 + 12100 + 100, twoLines(1502, 1500));
        Desk.due("1001 and 1001: CLASSES 3 and 3, then 1", 12100 + 10000 + 12100 + 100 + 10000, twoLines(1502, 1502));
        Desk.due("-1000 ahead of the END: CLASSES 0 and 1", 12100 + 100, cost(3000, -1000));
    }

    /** COST of a row of BREAKS of WORDS whose lines have a RATIO of 0 if they have two x and a - or a z. */
    private static long judged(String words, String row) {
        desk = new Desk(FINE + "b{hyphens:yes;}", "<b>" + words + "</b>");
        desk.font(font("x", 4750, "z", 500, "-", 500));
        desk.hyphens("ends 11 =xx-xx =xx-xx-xx");
        desk.press.set(1);
        return desk.judge(0, row);
    }

    private static void costs() {
        Desk.about("2500 more at a HYPHEN, 900 at a DASH; 3000 more if the line and that before end so (HYPHEN or DASH); 5000 more for the line to the END behind one that ends so");
        Desk.due("a line to the END alone", 100, judged("xx", ""));
        Desk.due("at a DASH", 1000 + 5100, judged("xx-xx", "1"));
        Desk.due("at a HYPHEN", 2600 + 5100, judged("xxxx", "1"));
        Desk.due("at a GLUE", 100 + 100, judged("xxz xx", "1"));
        Desk.due("DASH, DASH", 1000 + 4000 + 5100, judged("xx-xx-xx", "1 2"));
        Desk.due("HYPHEN, HYPHEN", 2600 + 5600 + 5100, judged("xxxxxx", "1 2"));
        Desk.due("DASH, HYPHEN", 1000 + 5600 + 5100, judged("xx-xxxx", "1 2"));
        Desk.due("HYPHEN, DASH", 2600 + 4000 + 5100, judged("xxxx-xx", "1 2"));
        Desk.due("DASH, HYPHEN, DASH", 1000 + 5600 + 4000 + 5100, judged("xx-xxxx-xx", "1 2 3"));
        Desk.due("DASH, GLUE", 1000 + 100 + 100, judged("xx-xxz xx", "1 2"));
        Desk.due("GLUE, DASH", 100 + 1000 + 5100, judged("xxz xx-xx", "1 2"));
        Desk.due("DASH, GLUE, DASH", 1000 + 100 + 1000 + 5100, judged("xx-xxz xx-xx", "1 2 3"));
    }

    private static void tooLong() {
        Desk.about("TOO LONG: BADNESS 10000; 1000000000 and N - Z - L more");
        press("", font("a", 5000, "b", 1), "aab");
        Desk.due("by 1", TOO_LONG + 1, desk.press.paragraph(0, 0));
        press("", font("a", 5000, "z", 5000), "aaz z");
        Desk.due("a line TOO LONG is of CLASS 0 or 1", TOO_LONG + 5000 + 100, desk.judge(0, "1"));
        press("", font(" ", 3000, "x", 5000, "a", 3000, "b", 2800, "e", 5000), "xxx a b ee");
        Desk.due("a line TOO LONG is of CLASS 0: one of 800 is of CLASS 2", TOO_LONG + 5000 + 3721 + 10000 + 100, desk.judge(0, "1 3"));
        press("b{align:left;}", font(" ", 300, "a", 5000), "aa a");
        Desk.due("not just: Z is 0; both in one line", -1, desk.judge(0, ""));
        press("b{align:left;}", font(" ", 300, "a", 5000), "aaa a");
        Desk.due("not just: Z is 0", TOO_LONG + 20000 + 300 - 10000, desk.judge(0, ""));
        press("", font(" ", 300, "a", 5000), "aaa a");
        Desk.due("just: Z is 100", TOO_LONG + 20000 + 300 - 100 - 10000, desk.judge(0, ""));
        press("b{hyphens:yes;}", font("-", 500, "x", 5000), "xxxx");
        desk.hyphens("ends 11 =xx-xx");
        desk.press.set(1);
        Desk.due("a - makes it TOO LONG", TOO_LONG + 500 + 2500 + 100 + 5000, desk.judge(0, "1"));
        Desk.due("the whole is worse", TOO_LONG + 10000, desk.judge(0, ""));
        Desk.due("so it is taken", 2, desk.press.count(5));
    }

    private static void told(String style, int blank, int missing, long due) {
        ratio(style, blank, missing);
        Desk.due("TOLD by " + style + " for " + missing, due, desk.press.paragraph(0, 3));
    }

    private static void tolerances() {
        Desk.about("allowed by a tolerance if no line's BADNESS is above it and none TOO LONG; taken is the first of tolerance, 10000 that allows one, else TOO LONG ones are allowed, too (TOLD 10001).");
        told("b{tolerance:1;}", 2000, 271, 1);
        told("b{tolerance:1;}", 2000, 272, 10000);
        told("b{tolerance:100;}", 2000, 1000, 100);
        told("b{tolerance:99;}", 2000, 1000, 10000);
        told("b{tolerance:100;}", 3000, -1000, 100);
        told("b{tolerance:99;}", 3000, -1000, 10000);
        told("b{tolerance:10000;}", 2, 200, 10000);
        told("b{tolerance:9999;}", 2, 200, 10000);
        press("b{tolerance:10000;}", font("a", 5000), "aaa");
        Desk.due("TOO LONG by 10000", 10001, desk.press.paragraph(0, 3));
        press("b{tolerance:1;}", font("a", 5000), "aaa");
        Desk.due("TOO LONG by 1", 10001, desk.press.paragraph(0, 3));
        press("b{tolerance:1;}", font("a", 5000), "aa");
        Desk.due("one line to the END", 1, desk.press.paragraph(0, 3));
        press("b{tolerance:1;}", font(" ", 3000, "a", 3500, "b", 3800), "a b");
        // 300 above L: BADNESS 2, and two lines are worse
        Desk.due("a line to the END that is shrunk", 10000, desk.press.paragraph(0, 3));
        Desk.about("-1 if a line is not allowed by the tolerance that it took");
        ratio("b{tolerance:100;}", 2000, 1000);
        Desk.due("BADNESS 100", 12100 + 100, desk.judge(0, "2"));
        Desk.due("BADNESS 10000", -1, desk.judge(0, "1"));
        Desk.due("TOO LONG", -1, desk.judge(0, ""));
    }

    private static void leastCost() {
        Desk.about("Of these rows that of the least cost in all");
        press("", font(" ", 3000, "a", 3000, "b", 3000, "c", 3000), "a b c");
        // a b misses 1000 of 1500: 666, of BADNESS 29; all of them are TOO LONG
        Desk.due("a b | c", "2 3", desk.lines(5));
        Desk.due("COST", 39 * 39 + 100, desk.press.paragraph(0, 0));
        Desk.about("taken is the first of tolerance, 10000 that allows one (not the least cost of both)");
        for (int tolerance = 28; tolerance <= 29; tolerance++) {
            desk = new Desk(FINE + "s{size:3000;}b{hyphens:yes;tolerance:" + tolerance + ";}", "<b>a<s> </s>b xy</b>");
            desk.font(font(" ", 1000, "a", 3000, "b", 3000, "x", 100, "-", 100, "y", 5000));
            desk.hyphens("ends 11 x1y");
            desk.press.set(1);
            // a b has a BADNESS of 29, a b x- one of 0
            Desk.due("TOLD", tolerance, desk.press.paragraph(0, 3));
            Desk.due("COST", tolerance == 28 ? 2600 + 5100 : 39 * 39 + 100, desk.press.paragraph(0, 0));
        }
    }

    private static void leastLastBreak() {
        Desk.about("of several the one whose last BREAK ahead of the END is the least");
        // a b misses 300 of a stretch of 1500, a b c has 200 more than its room: BADNESS 0 both
        desk = new Desk(FINE + "s{size:30000;}", "<b>a<s> </s>b c d</b>");
        desk.font(font(" ", 100, "a", 3000, "b", 3700, "c", 400, "d", 5000));
        desk.press.set(1);
        Desk.due("as dear", 200, desk.judge(0, "2"));
        Desk.due("as dear", 200, desk.judge(0, "3"));
        Desk.due("COST", 200, desk.press.paragraph(0, 0));
        Desk.due("the least", "2 4", desk.lines(5));
    }

    private static void noneIsLess() {
        Desk.about("(none at all is less)");
        desk = new Desk(FINE + "s{size:3000;}", "<b>a<s> </s>c b</b>");
        desk.font(font(" ", 1000, "a", 3000, "c", 3210, "b", 520));
        desk.press.set(1);
        // 730 above L by 1333: 548, of BADNESS 16; 790 below by 1500: 526, of BADNESS 14
        Desk.due("one line", 26 * 26, desk.judge(0, ""));
        Desk.due("two lines", 24 * 24 + 100, desk.judge(0, "2"));
        Desk.due("one line is taken", "3", desk.lines(5));
    }

    private static void thenTheOneAhead() {
        Desk.about("then the one ahead of that, and so on");
        desk = new Desk(FINE + "s{size:30000;}u{size:60000;}", "<b>a<s> </s>b c q<u> </u>r dd</b>");
        desk.font(font(" ", 100, "a", 3000, "b", 3700, "c", 400, "d", 5000, "q", 1700, "r", 1700));
        desk.press.set(1);
        Desk.due("as dear", 300, desk.judge(0, "2 5"));
        Desk.due("as dear", 300, desk.judge(0, "3 5"));
        Desk.due("the least", "2 5 6", desk.lines(5));
        ofDifferentClasses();
    }

    /** Lines to the same BREAK of CLASS 0 and 2, of the same BADNESS. */
    private static void ofDifferentClasses() {
        // a b misses 300, a b c has 200 too much; then c q r has 209 too much of 416: 503; q r misses 291 of 575: 506
        desk = new Desk(FINE + "s{size:30000;}u{size:11500;}", "<b>a<s> </s>b c q<u> </u>r dd</b>");
        desk.font(font(" ", 100, "a", 3000, "b", 3700, "c", 400, "d", 5000, "q", 4279, "r", 4280));
        desk.press.set(1);
        Desk.due("c q r", 484 + 200, desk.judge(0, "2 5"));
        Desk.due("q r", 484 + 200, desk.judge(0, "3 5"));
        Desk.due("the least", "2 5 6", desk.lines(5));
    }

    private static void moved() {
        Desk.about("In a line that is just (one to the END only if N is above L): behind its first j GLUES all is moved by (L - N) * a / A rounded down, a being their stretch");
        press("", font(" ", 2000, "a", 1999, "b", 2001, "c", 5000), "a a b cc");
        // 9999 of 10000
        Desk.due("1 for two GLUES: none, then all", "0 3999 7999", desk.spots(0));
        press("", font(" ", 2000, "a", 1000, "c", 5000), "a a a cc");
        Desk.due("3000 for two", "0 4500 9000", desk.spots(0));
        press("", font(" ", 2000, "a", 4000, "c", 5000), "a a cc");
        Desk.due("N = L", "0 6000", desk.spots(0));
        press("", font(" ", 2000, "a", 1000), "a a a");
        Desk.due("to the END", "0 3000 6000", desk.spots(0));
        desk = new Desk(FINE + "s{size:2000;}", "<b>a<s> </s>a a cc</b>");
        desk.font(font(" ", 1000, "a", 1000, "c", 5000));
        desk.press.set(1);
        // stretch 1000 and 500, 4000 missing: 2666, 4000
        Desk.due("by their stretch", "0 5666 9000", desk.spots(0));
        press("", font(" ", 1, "a", 4000, "c", 5000), "a a cc");
        Desk.due("no stretch at all", "0 4001", desk.spots(0));
        press("", font(" ", 2, "a", 4000, "c", 5000), "a a cc");
        Desk.due("a stretch of 1", "0 6000", desk.spots(0));
    }

    private static void movedBack() {
        Desk.about("or back by (N - L) * z / Z, rounded down, z their shrink (TOO LONG: z)");
        press("", font(" ", 3000, "a", 1333, "b", 1335, "c", 5000), "a a b cc");
        // 10001
        Desk.due("1 for two GLUES: none, then all", "0 4333 8665", desk.spots(0));
        press("", font(" ", 3000, "a", 2000, "c", 5000), "a a a cc");
        Desk.due("2000 for two", "0 4000 8000", desk.spots(0));
        press("", font(" ", 3000, "a", 4000), "a a");
        Desk.due("to the END, N above L", "0 6000", desk.spots(0));
        press("", font(" ", 30, "a", 5000, "b", 10), "aaa b b");
        Desk.due("TOO LONG", 10001, desk.press.paragraph(0, 3));
        Desk.due("TOO LONG in one: by 10 each", "0 15020 15050", desk.spots(0));
    }

    private static void aligned() {
        Desk.about("right: L - N to the right, middle: half of it, rounded down, if N is below L.");
        String words = "a b cc";
        String missing3 = font(" ", 2000, "a", 3000, "b", 4997, "c", 5000);
        press("b{align:right;}", missing3, words);
        Desk.due("right", "3 5003", desk.spots(0));
        Desk.due("right, the line to the END: N = L", "0", desk.spots(1));
        press("b{align:middle;}", missing3, words);
        Desk.due("middle", "1 5001", desk.spots(0));
        Desk.due("where they begin", "1 0", desk.lines(6));
        press("b{align:left;}", missing3, words);
        Desk.due("left", "0 5000", desk.spots(0));
        for (String align : new String[] {"right", "middle"}) {
            press("b{align:" + align + ";}", font("a", 5000, "b", 1), "aab");
            Desk.due(align + ", N above L", "0", desk.lines(6));
            press("b{align:" + align + ";indent:1000;}", font("a", 4999), "a");
            Desk.due(align + " and indent", align.equals("right") ? "5001" : "" + (1000 + (9000 - 4999) / 2), desk.lines(6));
        }
    }

    private static void cells(String style, String source, String widths) {
        desk = new Desk("page{width:10000;}" + Desk.SHOWS + "c{size:1000;tolerance:10000;}" + style, source);
        desk.font(font("a", 1000, " ", 1000, "-", 5000));
        desk.hyphens("ends 11 =aa-aa");
        desk.press.set(1);
        Desk.due("widths of cells of " + source + " by " + style, widths, desk.paragraphs(4));
    }

    private static void tableColumns() {
        Desk.about("TABLE: A column's LEAST: the widest PART of its cells (with its - at HYPHENS), its WISH: the widest cell in one line, both at least 1000.");
        cells("", "<t><r><c>aa aaa</c><c>aaaa</c></r></t>", "6000 4000");
        cells("", "<t><r><c>a</c><c>a</c></r><r><c>aaaaaa</c></r><r><c/><c>aaaa</c></r></t>", "6000 4000 6000 4000");
        cells("t{left:8000;}", "<t><r><c>a</c><c/></r></t>", "1000");
        cells("t{left:8000;}", "<t><r><c/><c>a</c></r></t>", "1000");
        Desk.due("an empty cell's column is 1000 wide", "1 \n0 9000 a\n", desk.page(1));
        // a PART with its - has 7000, the cell in one line 4000; the other LEAST 1000, WISH 11000
        cells("c{hyphens:yes;}", "<t><r><c>aaaa</c><c>a a a a a a</c></r></t>", "6143 3857");
    }

    private static void tableWidths() {
        Desk.about("Wishes together at most W: each has its WISH and W less these, divided by how many; else, if LEASTS are together at most W: LEAST and (W - LEASTS) * (WISH - LEAST) / (WISHES - LEASTS), rounded down; else W * LEAST / LEASTS, rounded down");
        String two = "<t><r><c>aaa aa</c><c>aaaa</c></r></t>";
        cells("", two, "6000 4000");
        cells("page{width:12000;}", two, "7000 5000");
        cells("t{left:1;}", two, "5999 4000");
        cells("t{left:3000;}", two, "3000 4000");
        cells("t{left:3001;}", two, "3000 3999");
        cells("t{left:9000;}", two, "1000 1000");
        cells("page{width:13000;}t{left:6500;}", two, "2786 3714");
        String both = "<t><r><c>aaa aa</c><c>aaaa aaa</c></r></t>";
        // WISHES 6000 and 8000, LEASTS 3000 and 4000
        cells("", both, (3000 + 3000 * 3000 / 7000 + 1) + " " + (4000 + 3000 * 4000 / 7000));
        cells("page{width:14000;}", both, "6000 8000");
        cells("page{width:13999;}", both, (3000 + 6999 * 3000 / 7000 + 1) + " " + (4000 + 6999 * 4000 / 7000));
    }

    private static void tableRests() {
        Desk.about("the rest to the first ones, one each");
        String three = "<t><r><c>a</c><c>a</c><c>a</c></r></t>";
        cells("page{width:10002;}", three, "3334 3334 3334");
        cells("page{width:10001;}", three, "3334 3334 3333");
        cells("page{width:10000;}", three, "3334 3333 3333");
        cells("page{width:10003;}", three, "3335 3334 3334");
        String wide = "<t><r><c>aaaaaaa</c><c>aaaaaaa</c><c>aaaaaaa</c></r></t>";
        cells("page{width:10001;}", wide, "3334 3334 3333");
        cells("page{width:10000;}", wide, "3334 3333 3333");
        String parted = "<t><r><c>a a a a</c><c>a a a a</c><c>a a a a</c></r></t>";
        cells("page{width:10001;}", parted, "3334 3334 3333");
        cells("page{width:10000;}", parted, "3334 3333 3333");
        String eight = "<t><r>" + "<c>a</c>".repeat(8) + "</r></t>";
        cells("page{width:10007;}", eight, "1251 1251 1251 1251 1251 1251 1251 1250");
    }

    private static void severalTables() {
        Desk.about("W: the table's width (6) (each table by itself)");
        cells("page{height:48000;}t{left:1000;}t:last{left:4000;keep:yes;}",
                "<t><r><c>a</c><c>a</c></r><r><c>aa</c></r></t><t><r><c>aaa</c><c>a</c><c>a</c></r></t>", "5000 4000 5000 3334 1333 1333");
        Desk.due("where they begin", "1000 1000 4000", desk.lines(6));
    }

    private static void tableRows() {
        Desk.about("A row is one line, as high as the greatest of its cells (its lines by its lead), at least one lead of the row; a row without text is none (its cells count for no column).");
        String table = "<t><r><c>aaaa aaaa</c><c>aaaa</c></r><r><c>a</c></r></t>z";
        // WISHES 9000 and 4000, LEASTS 4000 and 4000 of 10000: 6000 and 4000
        cells("c{lead:5000;}r{lead:9999;}", table, "6000 4000 6000 10000");
        Desk.due("two lines of 5000 are higher, one is not", "0 10000 19999", desk.lines(1));
        cells("c{lead:5000;}r{lead:10001;}", table, "6000 4000 6000 10000");
        Desk.due("one lead of the row", "0 10001 20002", desk.lines(1));
        cells("c{lead:5000;}c:last{lead:13000;}r{lead:1000;}", table, "6000 4000 6000 10000");
        Desk.due("one line of another cell", "0 13000 26000", desk.lines(1));
        Desk.due("rows have no PARAGRAPH", "-1 -1 3", desk.lines(2));
        cells("", "<t><r><c/><c> </c><c/></r><r><c>a</c></r><r/></t>", "10000");
        Desk.due("lines", 1, desk.press.count(5));
        cells("", "<t><r><c/><c> </c><c/></r></t>", "");
        Desk.due("lines", 0, desk.press.count(5));
    }
}
