/** Terms, 2 STYLE: each sentence that names a boundary. */
public final class Terms2StyleTest {
    private static Desk desk = new Desk();

    public static void main(String[] args) {
        selectors();
        steps();
        brackets();
        told();
        pageIsNoStep();
        steppedFields();
        firstLastNth();
        empty();
        not();
        links();
        weights();
        lastTold();
        names();
        numbers();
        percents();
        beginnings();
        inherited();
        counters();
        labels();
        pageRanges();
        pageValues();
        severalPages();
        wrongSorts();
        Desk.close("Terms2StyleTest");
    }

    private static void broken(String text, int place) {
        desk.broken("style", text, place);
    }

    /** Which of the ELEMENTS a SELECTOR fits. */
    private static void fits(String source, String selector, String due) {
        desk = new Desk(selector + "{keep:yes;}", source);
        Desk.due(selector + " in " + source, due, desk.elements(33).replace(" ", ""));
    }

    private static void selectors() {
        Desk.about("At most 120 SELECTORS");
        desk = new Desk();
        Desk.due("120 in one rule", 120, desk.style("a,".repeat(119) + "a{}"));
        Desk.due("120 rules", 120, desk.style("a{}".repeat(120) + "page{}"));
        broken("a{}".repeat(120) + "b{}", 360);
        broken("a{}".repeat(120) + "*", 360);
        broken("a,".repeat(120) + "b", 240);
        desk = new Desk("a{}".repeat(119) + "*{depth:5;}", "<b/>");
        Desk.due("the 120th counts", 5, desk.press.element(0, 39));
    }

    private static void steps() {
        Desk.about("8 STEPS in one");
        desk = new Desk();
        Desk.due("8", 1, desk.style("a>b/c+d>e/f+g>h{}"));
        broken("a>b/c+d>e/f+g>h>i{}", 16);
        broken("a>b/c+d>e/f+g>h / *{}", 18);
        broken("a,a>b/c+d>e/f+g>h+*", 18);
        String nine = "<a>".repeat(9) + "</a>".repeat(9);
        fits(nine, "a>a>a>a>a>a>a>a", "000000011");
        fits(nine, "a/a/a/a/a/a/a/a", "000000011");
        fits("<a/>".repeat(9), "a+a+a+a+a+a+a+a", "000000011");
        desk = new Desk();
        for (int again = 0; again < 7; again++) {
            Desk.due("as many in each STYLE", 60, desk.style("a>a>a>a>a>a>a>a,".repeat(59) + "a>a>a>a>a>a>a>a{}"));
        }
    }

    private static void brackets() {
        Desk.about("4 brackets and : in one STEP");
        desk = new Desk();
        broken("a[b][c][d][e]{}", -1);
        broken("a:first:last:nth(1):not(b)>c[b][b=\"\"]:empty:empty{}", -1);
        broken("a[b][c][d][e][f]{}", 13);
        broken("a:first:last:nth(1):not(b):empty{}", 26);
        broken("a[b][c][d]:first[", 16);
        broken("a>b[b][c][d][e]:", 15);
        fits("<a b=\"\" c=\"\" d=\"\" e=\"\"/><a b=\"\" c=\"\" d=\"\"/>", "a[b][c][d][e]", "10");
    }

    private static void told() {
        Desk.about("600 properties told in all. Of page (not of the 600)");
        desk = new Desk();
        String most = "a{" + "keep:no;".repeat(599) + "depth:3;}";
        broken(most + "page{" + "gap:0;".repeat(5) + "}", -1);
        broken(most + "b{}", -1);
        broken(most + "b{lead:", most.length() + 2);
        desk = new Desk();
        broken("a{" + "keep:no;".repeat(601) + "}", 2 + 8 * 600);
        desk = new Desk(most, "<a/>");
        Desk.due("the 600th counts", 3, desk.press.element(0, 39));
        Desk.about("600 properties told in all (in a BODY of two SELECTORS once)");
        desk.broken("style", "a,b,c{" + "keep:no;".repeat(600) + "}", -1);
    }

    private static void pageIsNoStep() {
        Desk.about("page is no NAME of a STEP at the beginning of a rule.");
        desk = new Desk();
        broken("page{}", -1);
        broken("page>a{}", 4);
        broken("page,a{}", 4);
        broken("page[a]{}", 4);
        broken("page:first{}", 4);
        broken("a{}page+a{}", 7);
        Desk.due("elsewhere it is", 4, desk.style("a>page{}a,page{}*:not(page){}"));
        fits("<page/><a><page/></a>", "a,page", "111");
        fits("<pages/><a/>", "pages", "10");
    }

    private static void steppedFields() {
        Desk.about("A STEP fits an ELEMENT of that NAME (* any) that has the FIELD; with that STRING");
        String source = "<a/><a q=\"\"/><a q=\"x\"/><a q=\"x \"/><a r=\"x\"/><b q=\"x\"/>";
        fits(source, "a", "111110");
        fits(source, "*", "111111");
        fits(source, "aa", "000000");
        fits(source, "a[q]", "011100");
        fits(source, "*[q]", "011101");
        fits(source, "*[q=\"\"]", "010000");
        fits(source, "*[q=\"x\"]", "001001");
        fits(source, "*[q=\"X\"]", "000000");
        fits(source, "*[q=\"x \"]", "000100");
        fits(source, "*[q][r]", "000000");
    }

    private static void firstLastNth() {
        Desk.about("is the first, last, NUMBERth (from 1; 0 is none) of the ELEMENTS directly in the same one (or in none)");
        String source = "x<a/>y<b><a/><a/><a/></b><a><b/></a>z";
        // 0 a, 1 b, 2 a, 3 a, 4 a, 5 a, 6 b
        fits(source, "*:first", "1010001");
        fits(source, "*:last", "0000111");
        fits(source, "*:nth(1)", "1010001");
        fits(source, "*:nth(2)", "0101000");
        fits(source, "*:nth(3)", "0000110");
        fits(source, "*:nth(4)", "0000000");
        fits(source, "*:nth(0)", "0000000");
        fits(source, "*:nth(9999999)", "0000000");
        fits(source, "a:nth(3)", "0000110");
        fits(source, "*:first:last", "0000001");
        fits("<a/>", "a:first:last:nth(1)", "1");
        fits("<a/>".repeat(500), "a:nth(500)", "0".repeat(499) + "1");
    }

    private static void empty() {
        Desk.about("has no ELEMENT or text in it (a blank is text; what stands for nothing is not)");
        fits("<a/><a></a><a> </a><a>\n</a><a>x</a><a><b/></a><a>&lt;</a>", "a:empty", "1100000" + "0");
        fits("<a><!-- x --></a><a><!q \"x\"></a><a>&q;</a><!p \"\"><a>&p;</a><a>&p;&q;</a><!o \" \"><a>&o;</a>", "a:empty", "110100");
    }

    private static void not() {
        Desk.about("has not that NAME");
        fits("<a/><ab/><b/>", "*:not(a)", "011");
        fits("<a/><ab/><b/>", "a:not(a)", "000");
        fits("<a/><ab/><b/>", "a:not(b)", "100");
        fits("<a/><ab/><b/>", "*:not(a):not(b)", "010");
    }

    private static void links() {
        Desk.about("a > b: b directly in an a; a / b: b in an a, however deep; a + b: b whose ELEMENT directly before it, in the same one, is an a");
        String source = "<a><i><b/></i><b/>x<b/></a><b/><a/><b/>";
        // 0 a, 1 i, 2 b, 3 b, 4 b, 5 b, 6 a, 7 b
        fits(source, "a>b", "00011000");
        fits(source, "a/b", "00111000");
        fits(source, "a+b", "00000101");
        fits(source, "i+b", "00010000");
        fits(source, "b+b", "00001000");
        fits(source, "i+b+b", "00001000");
        fits(source, "a/b+b", "00001000");
        fits(source, "b+a+b", "00000001");
        fits(source, "a>i>b", "00100000");
        fits(source, "*>b", "00111000");
        fits("<a>".repeat(20) + "</a>".repeat(20), "a/a", "0" + "1".repeat(19));
        Desk.about("A SELECTOR fits an ELEMENT that its last STEP fits, if there are ELEMENTS for all others.");
        fits("<a><b><a><c><d/></c></a></b></a>", "a>c/d", "00001");
        fits("<a q=\"\"><a><b/></a></a>", "a[q]/b", "001");
        fits("<a q=\"\"><a><b/></a></a>", "a[q]>b", "000");
        fits("<a><b/><c/></a><b><c/></b>", "a/b+c", "00100");
    }

    private static void weigh(String style, int due) {
        desk = new Desk(style, "<a q=\"x\"><b/><c/></a>");
        Desk.due("depth of the c by " + style, due, desk.press.element(2, 39));
    }

    private static void weights() {
        Desk.about("WEIGHT: 100 for each bracket or : , 1 for each NAME of a STEP (not in : not).");
        weigh("c{depth:1;}*{depth:2;}", 1);
        weigh("*>c{depth:1;}*>*{depth:2;}", 1);
        weigh("a>c{depth:1;}*>c{depth:2;}", 1);
        weigh("a>b+c{depth:1;}a>c{depth:2;}", 1);
        weigh("c:last{depth:1;}a>b+c{depth:2;}", 1);
        weigh("a[q]>c{depth:1;}c:last{depth:2;}", 1);
        weigh("*:last{depth:1;}*:not(b){depth:2;}", 2);
        weigh("*:not(b){depth:1;}*:last{depth:2;}", 2);
        weigh("c:last{depth:1;}*:not(b){depth:2;}", 1);
        weigh("*:last:nth(2){depth:1;}a[q]>b+c{depth:2;}", 1);
        weigh("a[q=\"x\"]>*{depth:1;}a[q]>*{depth:2;}", 2);
        weigh("*[q]>*:last{depth:1;}*:last:nth(2){depth:2;}", 2);
    }

    private static void lastTold() {
        Desk.about("of these the last told (in one BODY the last, too)");
        weigh("c{depth:1;}c{depth:2;}", 2);
        weigh("c{depth:1;depth:2;depth:3;}", 3);
        weigh("c{depth:1;}b,c{depth:2;}c{keep:yes;}", 2);
        weigh("a>c{depth:1;}b+c{depth:2;}", 2);
        weigh("b+c{depth:2;}a>c{depth:1;}", 1);
        weigh("a>c,c{depth:1;}c{depth:2;}", 1);
        weigh("c,a>c{depth:1;}c{depth:2;}", 1);
        weigh("b,q{depth:1;}", 0);
        weigh("c{depth:1;}d{depth:2;}", 1);
    }

    private static void property(String name, int number, String value, int due) {
        desk = new Desk("a{" + name + ":" + value + ";}", "<a/>");
        Desk.due(name + " " + value, due, desk.press.element(0, 20 + number));
    }

    private static void names() {
        Desk.about("VALUES that are NAMES are told by their number from 0 on, as they stand here; unknown other NAMES of properties and VALUES are out of range");
        choices("show", 0, "inline block none note float table row cell contents index ref term");
        choices("align", 8, "just left right middle");
        choices("hyphens", 9, "no yes");
        choices("keep", 13, "no yes");
        choices("count", 14, "no yes");
        choices("form", 18, "arabic roman letter");
        choices("head", 20, "no yes");
        desk = new Desk();
        broken("a{indents:1;}", 2);
        broken("a{width:10000;}", 2);
        broken("a{page:1;}", 2);
    }

    private static void choices(String name, int number, String list) {
        String[] values = list.split(" ");
        for (int k = 0; k < values.length; k++) {
            property(name, number, values[k], k);
        }
        desk = new Desk();
        for (String wrong : new String[] {values[0] + "s", "q", "0", "1", "\"" + values[0] + "\"", "*", ";"}) {
            broken("a{" + name + ":" + wrong + ";}", 3 + name.length());
        }
    }

    private static void range(String name, int number, int low, int high) {
        property(name, number, "" + low, low);
        property(name, number, "" + high, high);
        desk = new Desk();
        int place = 3 + name.length();
        if (low > 0) {
            broken("a{" + name + ":" + (low - 1) + ";}", place);
        }
        broken("a{" + name + ":" + (high + 1) + ";}", place);
        broken("a{" + name + ":9999999;}", place);
        broken("a{" + name + ":-" + high + ";}", place);
        broken("a{" + name + ":no;}", place);
        broken("a{" + name + ":none;}", place);
        broken("a{" + name + ":\"" + high + "\";}", place);
        broken("a{" + name + ":" + high + "x;}", place + ("" + high).length());
    }

    private static void numbers() {
        Desk.about("PROPERTIES (number: NAME, VALUES); Out of range are NUMBERS");
        range("size", 1, 1000, 100000);
        range("lead", 2, 1000, 200000);
        range("indent", 3, 0, 500000);
        range("left", 4, 0, 500000);
        range("right", 5, 0, 500000);
        range("above", 6, 0, 500000);
        range("below", 7, 0, 500000);
        range("tolerance", 10, 1, 10000);
        range("first", 11, 1, 9);
        range("last", 12, 1, 9);
        range("depth", 19, 0, 9);
        range("height", 21, 0, 1000000);
    }

    private static void percents() {
        Desk.about("size: NUMBER % (1 .. 1000) of that of the ELEMENT it is in, rounded down, at least 1000, at most 100000");
        desk = new Desk();
        broken("a{size:0%;}", 7);
        broken("a{size:1%;}", -1);
        broken("a{size:1000%;}", -1);
        broken("a{size:1001%;}", 7);
        broken("a{size:100000%;}", 7);
        broken("a{size:100 %\n;}", -1);
        broken("a{size:%;}", 7);
        broken("a{size:100%%;}", 11);
        broken("a{size:999;}", 7);
        broken("a{lead:100%;}", 7);
        broken("a{lead:1000%;}", 11);
        property("size", 1, "1%", 1000);
        property("size", 1, "9%", 1000);
        property("size", 1, "10%", 1000);
        property("size", 1, "11%", 1100);
        property("size", 1, "100%", 10000);
        property("size", 1, "999%", 99900);
        property("size", 1, "1000%", 100000);
        desk = new Desk("a{size:100000;}b{size:101%;}c{size:99%;}d{size:1001;}e{size:199%;}", "<a><b><c/></b></a><d><e/></d>");
        Desk.due("at most 100000, of what came of it, rounded down", "100000 100000 99000 1001 1991", desk.elements(21));
        desk = new Desk("a{size:20000;}a{size:50%;}*:last{size:50%;}", "<a><a><b/></a></a>");
        Desk.due("of the ELEMENT it is in, not of what was told before", "5000 2500 1250", desk.elements(21));
    }

    private static void beginnings() {
        Desk.about("PROPERTIES (number: NAME, VALUES; beginning)");
        int[] due = {0, 10000, 12000, 0, 0, 0, 0, 0, 0, 0, 200, 2, 2, 0, 0, 0, 0, 0, 0, 0, 0, 0};
        desk = new Desk("b{size:5000;}", "<a/>");
        for (int q = 0; q < due.length; q++) {
            Desk.due("beginning of " + q, due[q], desk.press.element(0, 20 + q));
        }
    }

    private static void inherited() {
        Desk.about("i: inherited, from the ELEMENT it is in, when no rule tells it");
        String all = "show:block;size:20000;lead:5000;indent:1;left:2;right:3;above:4;below:5;align:right;hyphens:yes;tolerance:7;"
                + "first:3;last:4;keep:yes;count:yes;step:x;reset:y;label:\"l\";form:roman;depth:1;head:yes;height:9;";
        int[] due = {0, 20000, 5000, 1, 0, 0, 0, 0, 2, 1, 7, 3, 4, 0, 1, 0, 0, 0, 1, 0, 0, 0};
        desk = new Desk("a{" + all + "}", "<a><b><c/></b></a>");
        for (int q = 0; q < due.length; q++) {
            Desk.due("property " + q + " of one in it", due[q], desk.press.element(1, 20 + q));
            Desk.due("property " + q + " deeper", due[q], desk.press.element(2, 20 + q));
        }
        desk = new Desk("a{" + all + "}b{size:3000;align:just;count:no;form:arabic;}", "<a><b><c/></b></a>");
        Desk.due("told by a rule: size", "20000 3000 3000", desk.elements(21));
        Desk.due("told by a rule: align", "2 0 0", desk.elements(28));
        Desk.due("told by a rule: count", "1 0 0", desk.elements(34));
        Desk.due("told by a rule: form", "1 0 0", desk.elements(38));
    }

    private static void counters() {
        Desk.about("step, reset: none or any other NAME (a COUNTER, at most 12 different); a COUNTER as 1 and its number (as they are told in STYLE first)");
        property("step", 15, "none", 0);
        property("step", 15, "nones", 1);
        property("reset", 16, "no", 1);
        desk = new Desk("a{step:x;}b{reset:y;step:none;}c{step:y;reset:x;}", "<a/><b/><c/>");
        Desk.due("step", "1 0 2", desk.elements(35));
        Desk.due("reset", "0 2 1", desk.elements(36));
        StringBuilder twelve = new StringBuilder("a{");
        for (char name = 'a'; name < 'm'; name++) {
            twelve.append(name < 'g' ? "step:" : "reset:").append(name).append(';');
        }
        desk = new Desk(twelve + "step:a;reset:none;step:l;}", "<a/>");
        Desk.due("the twelfth", 12, desk.press.element(0, 35));
        desk = new Desk();
        broken(twelve + "step:m;}", twelve.length() + 5);
        broken(twelve + "}b{reset:m;}", twelve.length() + 9);
        broken("a{step:1;}", 7);
        broken("a{reset:\"x\";}", 8);
        desk = new Desk("", "<a/>");
        for (int again = 0; again < 3; again++) {
            desk.style("a{reset:x;step:y;}");
            Desk.due("the second of this STYLE", 2, desk.press.element(0, 35));
            desk.style("a{step:z;}");
            desk.style("a{step:w;}");
            Desk.due("the first of this STYLE", 1, desk.press.element(0, 35));
        }
        desk = new Desk("a{step:x;step:y;}", "<a/>");
        Desk.due("one that was told first, and not last, has its number, too", 2, desk.press.element(0, 35));
    }

    private static void labels() {
        Desk.about("label: none or STRING; a STRING as 1, none as 0");
        property("label", 17, "none", 0);
        property("label", 17, "\"\"", 1);
        property("label", 17, "\"none\"", 1);
        property("label", 17, "\"x\";label:none", 0);
        desk = new Desk();
        broken("a{label:x;}", 8);
        broken("a{label:no;}", 8);
        broken("a{label:1;}", 8);
    }

    private static void pageRange(String name, int low, int high) {
        int place = 6 + name.length();
        desk = new Desk();
        broken("page{" + name + ":" + low + ";}", -1);
        broken("page{" + name + ":" + high + ";}", -1);
        if (low > 0) {
            broken("page{" + name + ":" + (low - 1) + ";}", place);
        }
        broken("page{" + name + ":" + (high + 1) + ";}", place);
        broken("page{" + name + ":9999999;}", place);
        broken("page{" + name + ":-1;}", place);
        broken("page{" + name + ":no;}", place);
        broken("page{" + name + ":\"1\";}", place);
        broken("page{" + name + ":" + high + "%;}", place + ("" + high).length());
    }

    private static void pageRanges() {
        Desk.about("Of page: width 10000 .. 1000000, height 10000 .. 1000000, columns 1 .. 4, gap 0 .. 100000, rule 0 .. 100000, lines no page all");
        pageRange("width", 10000, 1000000);
        pageRange("height", 10000, 1000000);
        pageRange("columns", 1, 4);
        pageRange("gap", 0, 100000);
        pageRange("rule", 0, 100000);
        desk = new Desk();
        broken("page{lines:no;lines:page;lines:all;}", -1);
        for (String wrong : new String[] {"yes", "none", "pages", "0", "\"no\""}) {
            broken("page{lines:" + wrong + ";}", 11);
        }
        for (String wrong : new String[] {"size", "lead", "show", "left", "line", "above"}) {
            broken("page{" + wrong + ":10000;}", 5);
        }
        broken("page{width:;}", 11);
        broken("page{width;}", 10);
        broken("page{lines:;}", 11);
        broken("page{lines;}", 10);
        broken("page", 4);
        broken("page{", 5);
        broken("page;", 4);
        broken("page{}}", 6);
    }

    private static void pageValues() {
        Desk.about("Of page: width, height, columns, gap, rule, lines as they are told");
        for (int width : new int[] {10000, 1000000}) {
            desk = new Desk("page{width:" + width + ";}", "a").set(1);
            Desk.due("width", width, desk.press.paragraph(0, 4));
        }
        for (int height : new int[] {10000, 200000}) {
            desk = new Desk("page{height:" + height + ";}b{show:block;lead:" + height + ";}", "<b>a</b>");
            Desk.due("a line as high as the page", 1, desk.press.set(1));
        }
        desk = new Desk("page{height:10000;}b{show:block;lead:10001;}", "<b>a</b>");
        Desk.dueThrow("a line that is higher", Desk.ARITHMETIC, () -> desk.press.set(1));
        for (int columns = 1; columns <= 4; columns++) {
            desk = new Desk("page{height:12000;width:20000;gap:" + 100000 / columns + ";columns:" + columns + ";}b{show:block;}", "<b>a</b>".repeat(5)).set(1);
            Desk.due("pages of " + columns, (4 + columns) / columns, desk.press.count(3));
            String[] lines = desk.page(1).split("\n");
            Desk.due("the last column of a page, gap between", "0 " + (columns - 1) * (20000 + 100000 / columns) + " a", lines[lines.length - 1]);
        }
        desk = new Desk("page{height:12000;width:20000;gap:0;columns:2;}b{show:block;}", "<b>a</b><b>b</b>").set(1);
        Desk.due("no gap", "1 \n0 0 a\n0 20000 b\n", desk.page(1));
        desk = new Desk("page{height:124000;rule:100000;}n{show:note;}", "a<n/>");
        Desk.due("a rule of 100000", 1, desk.press.set(1));
        desk = new Desk("page{height:123999;rule:100000;}n{show:note;}", "a<n/>");
        Desk.dueThrow("one less", Desk.ARITHMETIC, () -> desk.press.set(1));
        desk = new Desk("page{height:24000;rule:0;}n{show:note;}", "a<n/>");
        Desk.due("no rule", 1, desk.press.set(1));
    }

    private static void severalPages() {
        Desk.about("several page BODIES: the last that tells one counts (beginning 300000, 400000, 1, 10000, 6000, no)");
        desk = new Desk("page{width:20000;height:24000;width:30000;}page{width:40000;}a{}page{gap:0;}", "aaaaaaaa").set(1);
        Desk.due("width", 40000, desk.press.paragraph(0, 4));
        desk.style("page{height:24000;}page{width:50000;}page{}");
        desk.source("<b/>" + "aaaaaaaaaa ".repeat(3));
        Desk.dueThrow("height of the first BODY", Desk.ARITHMETIC, () -> desk.press.set(1));
        desk.style("b{show:block;}n{show:note;}");
        desk.source("<b>a<n/></b>");
        desk.press.set(1);
        Desk.due("beginning of width", 300000, desk.press.paragraph(0, 4));
        Desk.due("beginning of height: the NOTE's top", 400000 - 12000, desk.press.note(0, 5));
        desk.style("page{columns:2;height:12000;}b{show:block;}");
        desk.source("<b>a</b><b>b</b>");
        desk.press.set(1);
        Desk.due("beginning of gap", "1 \n0 0 a\n0 310000 b\n", desk.page(1));
        desk.style("page{height:30000;}n{show:note;}");
        desk.source("a<n/>");
        Desk.due("beginning of rule: 6000 and two lines", 1, desk.press.set(1));
        desk.style("page{height:29999;}n{show:note;}");
        Desk.dueThrow("one less", Desk.ARITHMETIC, () -> desk.press.set(1));
        desk = new Desk("page{width:20000;}b{count:yes;show:block;}", "<b>a</b>").set(1);
        Desk.due("beginning of lines", 0, desk.press.line(0, 3));
        Desk.due("beginning of columns", 1, new Desk("page{height:12000;}b{show:block;}", "<b>a</b>").set(1).press.count(3));
    }

    private static void wrongSorts() {
        Desk.about("(a VALUE of a wrong sort can't stand there)");
        desk = new Desk();
        broken("a{size:\"10000\";}", 7);
        broken("a{size:big;}", 7);
        broken("a{show:1;}", 7);
        broken("a{label:none;label:5;}", 19);
        broken("a{step:5;}", 7);
        broken("a{size:;}", 7);
        broken("a{size:10000,lead:1000;}", 12);
        broken("a{size=10000;}", 6);
        broken("a{:10000;}", 2);
        broken("a{size:10000;", 13);
        broken("a{}b", 4);
        broken("{}", 0);
        broken("a,,b{}", 2);
        broken("a,b,{}", 4);
        broken("a]{}", 1);
        broken("a:nth 1{}", 6);
        broken("a:nth(1{}", 7);
        broken("a:nth(){}", 6);
        broken("a:not(\"b\"){}", 6);
        broken("a:first(1){}", 7);
        broken("a[b=1]{}", 4);
        broken("a[b=\"1\"c]{}", 7);
        broken("a[]{}", 2);
        broken("*a{}", 1);
        broken("**{}", 1);
    }
}
