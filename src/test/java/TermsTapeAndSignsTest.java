/**
 * Terms, THE TAPE and SIGNS: each sentence that names a boundary. A TAPE that is full takes more
 * feeds than an object has promised calls; what the document says of it is tested all the same.
 */
public final class TermsTapeAndSignsTest {
    private static Desk desk;

    public static void main(String[] args) {
        tapeIsFull();
        tapeIsRead();
        tapeIsKept();
        tapeIsNotRead();
        longestSigns();
        names();
        numbers();
        strings();
        otherBytes();
        somethingIsMissing();
        aSignThatCannotStand();
        outOfRangeUnknownOrTooMuch();
        Desk.close("TermsTapeAndSignsTest");
    }

    private static void tapeIsFull() {
        Desk.about("THE TAPE has at most 16384 bytes.");
        desk = new Desk();
        desk.tape("a".repeat(16384));
        Desk.due("length of a full TAPE", 16384, desk.tapeLength());
        Desk.dueThrow("feed of a full TAPE", Desk.INDEX, () -> desk.press.feed(0, 0, 0, 0, 0));
        Desk.due("it stays full", 16384, desk.tapeLength());
        Desk.due("all of it is read", 0, desk.press.source());
        Desk.due("bytes of the SOURCE", 16384, desk.press.count(2));
        desk.tape("a".repeat(16365));
        Desk.dueThrow("feed to 16385", Desk.INDEX, () -> desk.press.feed(0, 0, 0, 0, 0));
        Desk.due("that changes nothing", 16365, desk.tapeLength());
        Desk.due("end", 16364, desk.press.end(16364));
        Desk.due("feed to 16384", 16384, desk.press.feed(0, 0, 0, 0, 0));
        String blanks = " ".repeat(16379);
        desk.broken("font", blanks + "width", 16384);
        desk.broken("font", blanks + "    ?", 16383);
        desk.broken("style", blanks + "  a{}", -1);
        desk.broken("style", blanks + "   a{", 16384);
        desk.broken("style", blanks + "  a}{", 16382);
        desk.broken("hyphens", blanks + "    ?", 16383);
        desk.broken("hyphens", blanks + " ends", 16384);
        desk.broken("hyphens", blanks + "  a1b", -1);
        desk.broken("source", blanks + " <a/>", -1);
        desk.broken("source", blanks + "<a/>>", -1);
        desk.broken("source", blanks + "  <a>", 16384);
        desk.broken("source", blanks + "    <", 16384);
    }

    private static void read(String call, String tape, Class<?> thrown, Desk.Call body) {
        desk.tape(tape);
        if (thrown == null) {
            Desk.dueNoThrow(call, body);
        } else {
            Desk.dueThrow(call, thrown, body);
        }
        Desk.due("the TAPE behind " + call, 0, desk.tapeLength());
    }

    private static void kept(String call, String tape, Class<?> thrown, Desk.Call body) {
        desk.tape(tape);
        if (thrown == null) {
            Desk.dueNoThrow(call, body);
        } else {
            Desk.dueThrow(call, thrown, body);
        }
        Desk.due("the TAPE behind " + call, tape.length(), desk.tapeLength());
    }

    private static void tapeIsRead() {
        Desk.about("A call that reads THE TAPE leaves it empty, also if it throws");
        desk = new Desk();
        ScholarsPress x = desk.press;
        read("font", "width\"a\"1;", null, x::font);
        read("font of an empty TAPE", "", null, x::font);
        read("font, BROKEN", "width\"a\"", Desk.BROKEN, x::font);
        read("hyphens", "a1b", null, x::hyphens);
        read("hyphens, BROKEN", "a11b", Desk.BROKEN, x::hyphens);
        read("style", "b{show:block;}", null, x::style);
        read("style, BROKEN", "b{show:block}", Desk.BROKEN, x::style);
        read("source, BROKEN", "<a>", Desk.BROKEN, x::source);
        read("source", "<a id=\"q\">xx yy</a>", null, x::source);
        read("change", "zz", null, () -> x.change(10, 10));
        read("change, BROKEN", "<", Desk.BROKEN, () -> x.change(0, 0));
        x.set(1);
        read("judge", "1", null, () -> x.judge(0));
        read("judge, BROKEN", "9", Desk.BROKEN, () -> x.judge(0));
        read("judge of no PARAGRAPH", "1", Desk.INDEX, () -> x.judge(1));
        read("where", "q", null, () -> x.where(0));
        read("where of no ID", "r", Desk.NONE, () -> x.where(0));
        desk.source("a".repeat(16000));
        read("change to 16385", "b".repeat(385), Desk.INDEX, () -> x.change(0, 0));
    }

    private static void tapeIsKept() {
        Desk.about("(but for IllegalArgumentException and IllegalStateException).");
        desk = new Desk();
        ScholarsPress x = desk.press;
        kept("change, a number out of range, no SOURCE", "<a/>", Desk.ARGUMENT, () -> x.change(1, 0));
        kept("change, no SOURCE", "<a/>", Desk.STATE, () -> x.change(0, 1));
        kept("judge, nothing SET", "1", Desk.STATE, () -> x.judge(0));
        kept("where, a number out of range, nothing SET", "q", Desk.ARGUMENT, () -> x.where(6));
        kept("where, nothing SET", "q", Desk.STATE, () -> x.where(5));
        desk.source("<a id=\"q\">xx yy</a>");
        x.set(1);
        kept("change, to too great", "<a/>", Desk.ARGUMENT, () -> x.change(0, 20));
        kept("change, from below 0", "<a/>", Desk.ARGUMENT, () -> x.change(-1, 0));
        kept("where, a number out of range", "q", Desk.ARGUMENT, () -> x.where(-1));
        kept("end, a number out of range", "abc", Desk.ARGUMENT, () -> x.end(4));
        desk.tape("<b/>");
        Desk.dueThrow("change", Desk.ARGUMENT, () -> x.change(-1, 0));
        Desk.due("the bytes of the TAPE are kept, too", 2, x.change(0, 0));
    }

    private static void tapeIsNotRead() {
        Desk.about("A call that reads THE TAPE leaves it empty (others leave it alone)");
        desk = new Desk(Desk.SHOWS, "<b>xx<n/></b><f/>");
        ScholarsPress x = desk.press;
        kept("set", "tape", null, () -> x.set(9));
        kept("set 10", "tape", Desk.ARGUMENT, () -> x.set(10));
        kept("place", "tape", null, x::place);
        kept("element", "tape", null, () -> x.element(0, 0));
        kept("count", "tape", null, () -> x.count(0));
        kept("line", "tape", null, () -> x.line(0, 0));
        kept("line 9", "tape", Desk.INDEX, () -> x.line(9, 0));
        kept("spot", "tape", null, () -> x.spot(0, 0));
        kept("paragraph", "tape", null, () -> x.paragraph(0, 0));
        kept("note", "tape", null, () -> x.note(0, 0));
        kept("wavering", "tape", Desk.INDEX, () -> x.wavering(0));
        kept("print", "tape", null, () -> x.print(1));
        kept("print 9", "tape", Desk.INDEX, () -> x.print(9));
        kept("word", "tape", null, () -> x.word(0));
        kept("word 9999", "tape", Desk.INDEX, () -> x.word(9999));
    }

    private static void longestSigns() {
        Desk.about("SIGNS of FONT and STYLE, each as long as can be, with blanks (10, 32) between where one likes");
        desk = new Desk();
        desk.broken("font", " \nwidth\n\"a\" \n5\n;\n", -1);
        desk.broken("font", "width\"a\"5;width\"b\"6;", -1);
        desk.broken("font", "widthkern\"a\"5;", 0);
        desk.broken("font", "width \"a\" 1 2;", 12);
        desk.broken("font", "kern \"a\"\"b\"\n-\n1;", -1);
        desk.broken("style", " a [ b = \"c\" ] : first : nth ( 1 ) > b , c { size : 10 % ; } ", -1);
        desk.broken("style", "a[b=\"c\"]:first:nth(1)>b,c{size:10%;lead:1000;}", -1);
        desk.broken("style", "a\nb{}", 2);
        desk.broken("style", "a{size:10 00;}", 7);
        desk.broken("style", "a{si ze:1000;}", 2);
        desk.broken("style", "a{step:x y;}", 9);
        desk.broken("style", "a:nth(1 0){}", 8);
        for (char other : new char[] {0, 9, 11, 13, 31, 127, 128, 160, 255}) {
            desk.broken("font", "width" + other + "\"a\"5;", 5);
            desk.broken("style", "a" + other + "{}", 1);
            desk.broken("style", other + "a{}", 0);
        }
    }

    private static void names() {
        Desk.about("NAME: a small letter, then small letters and digits; NAMES longer than 12: BROKEN at their first byte.");
        desk = new Desk();
        String twelve = "a2345678901z";
        desk.broken("style", twelve + ">" + twelve + "[" + twelve + "]:not(" + twelve + "){step:" + twelve + ";reset:" + twelve + ";}", -1);
        desk.broken("style", twelve + "x{}", 0);
        desk.broken("style", "a>" + twelve + "x{}", 2);
        desk.broken("style", "a[" + twelve + "x]{}", 2);
        desk.broken("style", "a:not(" + twelve + "1){}", 6);
        desk.broken("style", "a{step:" + twelve + "1;}", 7);
        desk.broken("style", "a{reset:" + twelve + "1;}", 8);
        desk.broken("style", "a{" + twelve + "1:1000;}", 2);
        desk.broken("style", "1a{}", 0);
        desk.broken("style", "Aa{}", 0);
        desk.broken("style", "aA{}", 1);
        desk.broken("style", "a_b{}", 1);
        desk.broken("style", "a-b{}", 1);
        desk.broken("style", "z9z{}", -1);
        desk = new Desk(twelve + "{depth:7;}", "<" + twelve + "/><" + twelve.substring(0, 11) + "/>");
        Desk.due("a NAME of 12 is not that of its first 11", "7 0", desk.elements(39));
        desk.source("<a/><a0/><aa/><b/>");
        desk.style("a0{depth:1;}aa{depth:2;}a{depth:3;}");
        Desk.due("NAMES that begin alike", "3 1 2 0", desk.elements(39));
    }

    private static void numbers() {
        Desk.about("NUMBER: 1 to 7 digits; NUMBERS longer than 7: BROKEN at their first byte.");
        desk = new Desk();
        desk.broken("font", "width\"a\"0;", -1);
        desk.broken("font", "width\"a\"0005000;", -1);
        desk.broken("font", "width\"a\"00005000;", 8);
        desk.broken("font", "width\"a\"9999999;", 8);
        desk.broken("font", "kern\"a\"\"b\"-0000500;", -1);
        desk.broken("font", "kern\"a\"\"b\"-00000500;", 11);
        desk.broken("font", "width\"a\";", 8);
        desk.broken("style", "a:nth(9999999){}", -1);
        desk.broken("style", "a:nth(10000000){}", 6);
        desk.broken("style", "a:nth(00000001){}", 6);
        desk.broken("style", "a{size:0001000;}", -1);
        desk.broken("style", "a{size:00001000;}", 7);
        desk.broken("style", "a{size:0000001%;}", -1);
        desk.broken("style", "a{size:00000001%;}", 7);
        desk.broken("style", "a{size:99999999999999999999;}", 7);
        // the lowest 32 bits of 4294968296 are 1000
        desk.broken("style", "a{size:4294968296;}", 7);
        desk = new Desk("a{depth:0000007;}", "<a/>");
        Desk.due("zeros ahead", 7, desk.press.element(0, 39));
    }

    private static void strings() {
        Desk.about("STRING: \", then bytes 32 .. 126 but \", then \"; without its end (or with another byte ahead of it): BROKEN at its first byte.");
        desk = new Desk();
        desk.broken("style", "a{label:\"\";}", -1);
        desk.broken("style", "a{label:\" ~\";}", -1);
        desk.broken("style", "a{label:\"", 8);
        desk.broken("style", "a{label:\"x;}", 8);
        desk.broken("style", "a[b=\"x]{}", 4);
        desk.broken("font", "width\"", 5);
        desk.broken("font", "width\"a", 5);
        desk.broken("font", "width\"a5;", 5);
        for (char other : new char[] {0, 9, 10, 13, 31, 127, 128, 255}) {
            desk.broken("style", "a{label:\"x" + other + "\";}", 8);
            desk.broken("font", "width\"" + other + "\"5;", 5);
        }
        desk.broken("font", "width\" \"5;width\"~\"5;width\"!\"5;", -1);
    }

    private static void otherBytes() {
        Desk.about("any other byte by itself");
        desk = new Desk();
        desk.broken("style", "a::first{}", 2);
        desk.broken("style", "a[[b]]{}", 2);
        desk.broken("style", "a{{}}", 2);
        desk.broken("style", "a>>b{}", 2);
        desk.broken("style", "a{;}", 2);
        desk.broken("style", "a{size:1%%;}", 9);
        desk.broken("font", "kern\"a\"\"b\"--5;", 11);
        desk.broken("font", "width\"a\"5;;", 10);
    }

    /** Of a text whose SIGNS are given: what is there up to each of them is BROKEN at its length, or whole. */
    private static void cut(String kind, String text, String whole) {
        String[] signs = text.split(" ");
        StringBuilder sofar = new StringBuilder();
        for (int k = 0; k <= signs.length; k++) {
            boolean fine = k == 0 || signs[k - 1].equals(whole);
            desk = new Desk();
            desk.broken(kind, sofar.toString(), fine ? -1 : sofar.length());
            desk.broken(kind, sofar + " \n", fine ? -1 : sofar.length() + 2);
            if (k < signs.length) {
                sofar.append(k > 0 ? " " : "").append(signs[k]);
            }
        }
    }

    private static void somethingIsMissing() {
        Desk.about("its length at the end, if something is missing");
        cut("font", "width \"a\" 5 ; kern \"a\" \"b\" - 5 ; kern \"a\" \"b\" 5 ; join \"a\" \"b\" 5 ;", ";");
        cut("style", "page { width : 10000 ; lines : page ; } a { }", "}");
        cut("style", "a , b > c / * + d [ e ] [ f = \"g\" ] : first : nth ( 3 ) , a : not ( h ) { size : 5000 ; label : \"x\" ; step : y ; }", "}");
        cut("style", "* { size : 1000 % ; }", "}");
    }

    /** A byte that never stands, behind each SIGN of a text: it is the first that can't stand there. */
    private static void disturbed(String kind, String text) {
        String[] signs = text.split(" ");
        StringBuilder sofar = new StringBuilder();
        for (int k = 0; k <= signs.length; k++) {
            desk = new Desk();
            desk.broken(kind, sofar + " ?" + (k < signs.length ? signs[k] : ""), sofar.length() + 1);
            desk.broken(kind, sofar + "\n!", sofar.length() + 1);
            if (k < signs.length) {
                sofar.append(k > 0 ? " " : "").append(signs[k]);
            }
        }
    }

    private static void aSignThatCannotStand() {
        Desk.about("BROKEN at the PLACE (from 0) of the first byte of the first SIGN that can't stand there");
        disturbed("font", "width \"a\" 5 ; kern \"a\" \"b\" - 5 ; join \"a\" \"b\" 5 ;");
        disturbed("style", "page { width : 10000 ; lines : all ; } a , b > c / * + d [ e ] [ f = \"g\" ] : first : last , a : empty : nth ( 3 ) : not ( h ) { size : 5000 ; label : \"x\" ; step : y ; }");
        desk = new Desk();
        desk.broken("font", "width?\"a\"!5;", 5);
        desk.broken("style", "a{size:?;}b{lead:?;}", 7);
    }

    private static void outOfRangeUnknownOrTooMuch() {
        Desk.about("or is out of range, unknown where it must be known, there already where it must be new, or one too much");
        desk = new Desk();
        desk.broken("font", "width\"a\"5001;?", 8);
        desk.broken("font", "?width\"a\"5001;", 0);
        desk.broken("font", "height\"a\"5;", 0);
        desk.broken("style", "a{lead:999;}?", 7);
        desk.broken("style", "a{lede:1000;}", 2);
        desk.broken("style", "a{show:blocks;}", 7);
        desk.broken("style", "a:only{}", 2);
        desk.broken("style", "a:first:first:first:first:first{}", 25);
        desk.broken("source", "<a b=\"\" b=\"\"/>", 8);
        desk.broken("source", "<!a \"\"><!a \"\">", 9);
    }
}
