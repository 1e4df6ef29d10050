/** Promises 6 and 11: style, and the properties of ELEMENTS. */
public final class StyleTest {
    private static Desk desk;

    public static void main(String[] args) {
        answers();
        brokenTexts();
        limits();
        beginnings();
        values();
        selectors();
        weights();
        inherited();
        wrongInputs();
        Desk.close("StyleTest");
    }

    private static void answers() {
        desk = new Desk();
        Desk.due("empty", 0, desk.style(""));
        Desk.due("page alone", 0, desk.style("page{}page{width:10000;width:1000000;lines:all;}"));
        Desk.due("lists", 5, desk.style("a,b > c / * + d{}\n* [ a ] [b=\"\"] : first : nth ( 2 ) {size:10000;}a,page{}"));
        Desk.due("page as a STEP", 2, desk.style("a>page{}*,page:not(page){}") - 1);
    }

    private static void brokenTexts() {
        desk = new Desk();
        desk.broken("style", "a", 1);
        desk.broken("style", "a{", 2);
        desk.broken("style", "a{size", 6);
        desk.broken("style", "a{size:", 7);
        desk.broken("style", "a{size:5000", 11);
        desk.broken("style", "a{size:5000;", 12);
        desk.broken("style", "a{size:999;}", 7);
        desk.broken("style", "a{size:100001;}", 7);
        desk.broken("style", "a{size:100000;size:1000;size:1%;}", -1);
        desk.broken("style", "a{lead:200000;indent:500000;left:500000;right:500000;above:500000;below:500000;}", -1);
        desk.broken("style", "a{lead:200001;}", 7);
        desk.broken("style", "a{right:500001;}", 8);
        desk.broken("style", "a{above:500001;}", 8);
        desk.broken("style", "a{below:500001;}", 8);
        desk.broken("style", "a{tolerance:1;first:1;last:9;depth:0;height:0;}", -1);
        desk.broken("style", "a{size:0%;}", 7);
        desk.broken("style", "a{size:1000 % ;}", -1);
        desk.broken("style", "a{size:1001%;}", 7);
        desk.broken("style", "a{lead:1000%;}", 11);
        desk.broken("style", "a{lead:999;}", 7);
        desk.broken("style", "a{lead:no;}", 7);
        desk.broken("style", "a{indent:500001;}", 9);
        desk.broken("style", "a{left:-1;}", 7);
        desk.broken("style", "a{align:center;}", 8);
        desk.broken("style", "a{align:1;}", 8);
        desk.broken("style", "a{tolerance:0;}", 12);
        desk.broken("style", "a{tolerance:10001;}", 12);
        desk.broken("style", "a{first:0;}", 8);
        desk.broken("style", "a{last:10;}", 7);
        desk.broken("style", "a{depth:10;}", 8);
        desk.broken("style", "a{height:1000001;}", 9);
        desk.broken("style", "a{step:\"x\";}", 7);
        desk.broken("style", "a{label:x;}", 8);
        desk.broken("style", "a{width:10000;}", 2);
        desk.broken("style", "a{Size:10000;}", 2);
        desk.broken("style", "a{size;}", 6);
        desk.broken("style", "a{size:10000}", 12);
        desk.broken("style", "a{}}", 3);
        desk.broken("style", "a b{}", 2);
        desk.broken("style", "a,{}", 2);
        desk.broken("style", "a>{}", 2);
        desk.broken("style", ">a{}", 0);
        desk.broken("style", "a[1]{}", 2);
        desk.broken("style", "a[b=c]{}", 4);
        desk.broken("style", "a[b=\"c\"{}", 7);
        desk.broken("style", "a[b=\"c\n\"]{}", 4);
        desk.broken("style", "a:second{}", 2);
        desk.broken("style", "a:nth{}", 5);
        desk.broken("style", "a:nth(a){}", 6);
        desk.broken("style", "a:not(2){}", 6);
        desk.broken("style", "a:not(*){}", 6);
        desk.broken("style", "a:not(b{}", 7);
        desk.broken("style", "abcdefghijklm{}", 0);
        desk.broken("style", "abcdefghijkl{}", -1);
        desk.broken("style", "a:nth(12345678){}", 6);
        desk.broken("style", "page", 4);
        desk.broken("style", "page{width:9999;}", 11);
        desk.broken("style", "page{width:10000;height:10000;columns:4;gap:100000;rule:100000;lines:no;}", -1);
        desk.broken("style", "page{width:1000001;}", 11);
        desk.broken("style", "page{height:9999;}", 12);
        desk.broken("style", "page{height:1000001;}", 12);
        desk.broken("style", "page{columns:5;}", 13);
        desk.broken("style", "page{columns:0;}", 13);
        desk.broken("style", "page{gap:100001;}", 9);
        desk.broken("style", "page{rule:100001;}", 10);
        desk.broken("style", "page{lines:yes;}", 11);
        desk.broken("style", "page{size:10000;}", 5);
        desk.broken("style", "page,a{}", 4);
        desk.broken("style", "a{}\u0007", 3);
    }

    private static void limits() {
        desk = new Desk();
        Desk.due("120 SELECTORS", 120, desk.style("a,".repeat(119) + "a{}"));
        desk.broken("style", "a,".repeat(120) + "a{}", 240);
        Desk.due("8 STEPS", 1, desk.style("a>a/a+a>a>a>a>a{}"));
        Desk.due("4 brackets and :", 1, desk.style("a:first[b][c]:last{}"));
        desk.broken("style", "a:first[b][c]:last[d]{}", 18);
        desk.broken("style", "a>b:first[b][c]:last>c:first[b][c]:last:first{}", 39);
        Desk.due("600 properties", 1, desk.style("a{" + "lead:1000;".repeat(600) + "}page{width:10000;}"));
        desk.broken("style", "a{" + "lead:1000;".repeat(600) + "}b{size:1%;}", 2 + 6000 + 3);
        StringBuilder counters = new StringBuilder("a{");
        for (char c = 'a'; c < 'm'; c++) {
            counters.append(c % 2 == 0 ? "step:" : "reset:").append(c).append(';');
        }
        Desk.due("12 COUNTERS", 1, desk.style(counters + "step:a;step:none;step:l;}"));
        desk.source("<a/><a/>");
        Desk.due("the last COUNTER", 12, element(1, 15));
        Desk.due("its VALUE", 2, desk.press.element(1, 5));
        desk.broken("style", counters + "step:m;}", counters.length() + 5);
    }

    private static int element(int e, int property) {
        return desk.press.element(e, 20 + property);
    }

    private static void beginnings() {
        desk = new Desk();
        desk.source("<a/>");
        int[] due = {0, 10000, 12000, 0, 0, 0, 0, 0, 0, 0, 200, 2, 2, 0, 0, 0, 0, 0, 0, 0, 0, 0};
        for (int q = 0; q < 22; q++) {
            Desk.due("beginning of property " + q, due[q], element(0, q));
        }
    }

    private static void values() {
        desk = new Desk();
        desk.source("<a/>");
        String[] shows = {"inline", "block", "none", "note", "float", "table", "row", "cell", "contents", "index", "ref", "term"};
        for (int k = 0; k < shows.length; k++) {
            desk.style("a{show:" + shows[k] + ";}");
            Desk.due("show " + shows[k], k, element(0, 0));
        }
        desk.style("a{size:33333;lead:1000;indent:1;left:2;right:3;above:4;below:500000;align:middle;hyphens:yes;tolerance:10000;"
                + "first:9;last:1;keep:yes;count:yes;step:y;reset:x;label:\"\";form:letter;depth:9;head:yes;height:1000000;}");
        int[] due = {0, 33333, 1000, 1, 2, 3, 4, 500000, 3, 1, 10000, 9, 1, 1, 1, 1, 2, 1, 2, 9, 1, 1000000};
        for (int q = 0; q < 22; q++) {
            Desk.due("told property " + q, due[q], element(0, q));
        }
        desk.style("a{label:\"x\";label:none;step:q;reset:q;step:r;align:right;form:roman;}");
        Desk.due("label none", 0, element(0, 17));
        Desk.due("step: a COUNTER as 1 and its number", 2, element(0, 15));
        Desk.due("reset", 1, element(0, 16));
        Desk.due("align right", 2, element(0, 8));
        Desk.due("form roman", 1, element(0, 18));
    }

    /** Which of the ELEMENTS a SELECTOR fits. */
    private static void fits(String selector, String due) {
        desk.style(selector + "{keep:yes;}");
        StringBuilder fitted = new StringBuilder();
        for (int e = 0; e < desk.press.count(0); e++) {
            fitted.append(element(e, 13));
        }
        Desk.due("SELECTOR " + selector + "\n", due + "\n", fitted + "\n");
    }

    private static void selectors() {
        desk = new Desk();
        //             0  1            2            3    4  5 6       7
        desk.source("<a><b id=\"x\"/><b id=\"y\"> <c/></b><a><b/></a><c></c></a><b>&lt;</b><b><!-- --><!e \"\">&e;</b>");
        // 0 a, 1 b x, 2 b y, 3 c, 4 a, 5 b, 6 c, 7 b text, 8 b empty
        fits("*", "111111111");
        desk.source("<zz9>x</zz9><a id=\"xyz\"/><a id=\"xya\"/>");
        fits("*:empty", "011");
        fits("zz9", "100");
        fits("a[id=\"xyz\"]", "010");
        fits("a[id=\"xy\"]", "000");
        desk.source("<a><b id=\"x\"/><b id=\"y\"> <c/></b><a><b/></a><c></c></a><b>&lt;</b><b><!-- --><!e \"\">&e;</b>");
        fits("b", "011001011");
        fits("b[id]", "011000000");
        fits("b[id=\"y\"]", "001000000");
        fits("b[id=\"\"]", "000000000");
        fits("*:first", "110101000");
        fits("*:last", "000101101");
        fits("*:nth(2)", "001000010");
        fits("*:nth(0)", "000000000");
        fits("*:empty", "010101101");
        fits("b:not(b)", "000000000");
        fits("*:not(b)", "100110100");
        fits("a>b", "011001000");
        fits("a>c", "000000100");
        fits("a/c", "000100100");
        fits("a/b", "011001000");
        fits("b+b", "001000001");
        fits("a+b", "000000010");
        fits("a+b+b", "000000001");
        fits("b+b>c", "000100000");
        fits("a>b+b/c:first:last", "000100000");
        fits("a/a/b", "000001000");
        fits("a>a>b", "000001000");
        fits("a/b/c", "000100000");
        fits("*>*>*", "000101000");
        fits("*/*+*>b", "000001000");
        fits("a,c", "100110100");
    }

    private static void weights() {
        desk = new Desk();
        desk.source("<a id=\"x\"><b/></a>");
        desk.style("a{depth:1;}a{depth:2;depth:3;}");
        Desk.due("the last told", 3, element(0, 19));
        desk.style("a{depth:1;}*{depth:2;}");
        Desk.due("a NAME is more than *", 1, element(0, 19));
        desk.style("a>b{depth:1;}b{depth:2;}");
        Desk.due("two NAMES are more than one", 1, element(1, 19));
        desk.style("*[id]{depth:1;}a{depth:2;}");
        Desk.due("a bracket is more than a NAME", 1, element(0, 19));
        desk.style("*:first:last{depth:1;}a[id=\"x\"]{depth:2;}");
        Desk.due("two : are more than a bracket and a NAME", 1, element(0, 19));
        desk.style("*:not(b){depth:1;}*:first{depth:2;}a:first{depth:3;}*:not(b){depth:4;}");
        Desk.due("the NAME in :not has no WEIGHT", 3, element(0, 19));
        desk.style("a,*:first{depth:1;}a{depth:2;}");
        Desk.due("the greatest WEIGHT of a list", 1, element(0, 19));
        desk.style("a{depth:1;lead:5000;}a:first{depth:2;}");
        Desk.due("each property by itself", 5000, element(0, 2));
    }

    private static void inherited() {
        desk = new Desk();
        desk.source("<a><b><c/></b></a>");
        desk.style("a{show:block;size:20000;lead:5000;indent:1;left:2;right:3;above:4;below:5;align:right;hyphens:yes;tolerance:7;"
                + "first:3;last:4;keep:yes;count:yes;step:x;reset:y;label:\"l\";form:roman;depth:1;head:yes;height:9;}");
        int[] due = {0, 20000, 5000, 1, 0, 0, 0, 0, 2, 1, 7, 3, 4, 0, 1, 0, 0, 0, 1, 0, 0, 0};
        for (int q = 0; q < 22; q++) {
            Desk.due("inherited property " + q, due[q], element(2, q));
        }
        desk.style("a{size:33%;}b{size:50%;}c{size:1000%;}");
        Desk.due("% of ROOT", 3300, element(0, 1));
        Desk.due("% of the ELEMENT it is in", 1650, element(1, 1));
        Desk.due("% up", 16500, element(2, 1));
        desk.style("a{size:5%;}b{size:333%;}c{size:33%;}");
        Desk.due("at least 1000", 1000, element(0, 1));
        Desk.due("of what came of it", 3330, element(1, 1));
        Desk.due("rounded down", 1098, element(2, 1));
        desk.style("a{size:1000%;}b{size:200%;}");
        Desk.due("at most 100000", 100000, element(1, 1));
        desk.broken("style", "a{size:10000;}b", 15);
        Desk.due("the STYLE before stays", 100000, element(1, 1));
    }

    private static void wrongInputs() {
        ScholarsPress x = desk.press;
        Desk.dueThrow("element 3", Desk.ARGUMENT, () -> x.element(3, 0));
        Desk.dueThrow("element -1", Desk.ARGUMENT, () -> x.element(-1, 0));
        Desk.dueThrow("what -1", Desk.ARGUMENT, () -> x.element(0, -1));
        Desk.dueThrow("what 8", Desk.ARGUMENT, () -> x.element(0, 8));
        Desk.dueThrow("what 19", Desk.ARGUMENT, () -> x.element(0, 19));
        Desk.dueThrow("what 42", Desk.ARGUMENT, () -> x.element(0, 42));
        ScholarsPress none = new ScholarsPress();
        Desk.dueThrow("what 42 without SOURCE", Desk.ARGUMENT, () -> none.element(0, 42));
        Desk.dueThrow("element -1 without SOURCE", Desk.ARGUMENT, () -> none.element(-1, 0));
        Desk.dueThrow("element without SOURCE", Desk.STATE, () -> none.element(7, 41));
    }
}
