/** Terms, 1 SOURCE: each sentence that names a boundary. */
public final class Terms1SourceTest {
    private static Desk desk = new Desk();

    public static void main(String[] args) {
        bytes();
        ltAndAmp();
        entities();
        definitions();
        fortyEntities();
        comments();
        elementsThatAreEmpty();
        sameNameTwice();
        fields();
        blanks();
        brokenBytes();
        everyCut();
        onlyOnce();
        fiveHundred();
        twentyDeep();
        firstOfSeveral();
        textAlone();
        Desk.close("Terms1SourceTest");
    }

    private static void broken(String text, int place) {
        desk.broken("source", text, place);
    }

    /** One answer of what print tells of a SOURCE. */
    private static void shows(String source, String due) {
        desk = new Desk(Desk.SHOWS, source).set(1);
        Desk.due("text of " + source, due, desk.texts());
    }

    private static void bytes() {
        Desk.about("PIECE: bytes 10, 32 .. 126 but < and & (they stand for themselves)");
        for (int b = 0; b < 256; b++) {
            desk = new Desk();
            boolean stands = b == 10 || (b >= 32 && b <= 126);
            int place = b == '<' ? 3 : b == '&' ? 2 : stands ? -1 : 1;
            broken("x" + (char) b + "y", place);
        }
        shows("! >'\"/=~;", "! >'\"/=~;");
        shows("", "");
    }

    private static void ltAndAmp() {
        Desk.about("&lt; &amp; (for < and &)");
        shows("&lt;&amp;&lt;b>&amp;lt;", "<&<b>&lt;");
        desk = new Desk();
        broken("&lt", 3);
        broken("&lt ;", 3);
        broken("&l;", 1);
        broken("&ltt;", 1);
        broken("& lt;", 1);
        broken("&LT;", 1);
        broken("&;", 1);
        broken("&", 1);
        broken("&gt;", 1);
    }

    private static void entities() {
        Desk.about("& NAME ; (an ENTITY that is defined before, for its TEXT)");
        shows("<!q \"zz\">&q;&q;", "zzzz");
        shows("<i><!q \"zz\"></i>&q;", "zz");
        shows("<h><!q \"zz\"></h>&q;", "zz");
        shows("<!q \"\">a&q;b", "ab");
        shows("<!abcdefghijkl \"z\">&abcdefghijkl;", "z");
        desk = new Desk();
        broken("&q;<!q \"zz\">", 1);
        broken("<!q \"zz\">&r;", 10);
        broken("<!q \"zz\">&q", 11);
        broken("<!q \"zz\">&q ;", 11);
        broken("<!q \"zz\">&qq;", 10);
        broken("<!abcdefghijklm \"z\">", 2);
        broken("<!q \"\">&abcdefghijklm;", 8);
        broken("<!---&q;-->&q;", 12);
    }

    private static void definitions() {
        Desk.about("<! NAME STRING > (it defines an ENTITY, in whose STRING there is no < or &, else that is BROKEN at its first byte");
        desk = new Desk();
        broken("<!q\"z\">", -1);
        broken("<!q \n \"z\" \n >", -1);
        broken("<!q \" !/>~\">", -1);
        broken("<!q \"a<\">", 4);
        broken("<!q \"&lt;\">", 4);
        broken("<!q \"a&\"", 4);
        broken("<!q  \"<\"/", 5);
        broken("<!q z>", 4);
        broken("<!q>", 3);
        broken("<!q \"z\"x>", 7);
        broken("<!q \"z\" \"z\">", 8);
        broken("<!q=\"z\">", 3);
        broken("<!Q \"z\">", 2);
        broken("<!1 \"z\">", 2);
    }

    private static String define(int count) {
        StringBuilder text = new StringBuilder();
        for (int k = 0; k < count; k++) {
            text.append("<!e").append(k).append("\"").append(k).append("\">");
        }
        return text.toString();
    }

    private static void fortyEntities() {
        Desk.about("at most 40");
        desk = new Desk();
        broken(define(40) + "&e0;&e39;", -1);
        Desk.due("ENTITIES", 40, desk.press.count(1));
        broken(define(40) + "<!e40 \"<", define(40).length() + 2);
        broken(define(40) + "<!e0 \"\">", define(40).length() + 2);
        Desk.due("the SOURCE before stays", 40, desk.press.count(1));
        desk = new Desk("", define(40) + "&e0;&e39;").set(1);
        Desk.due("the first and the last", "039", desk.texts());
    }

    private static void comments() {
        Desk.about("<!-- then any bytes up to the first -->");
        shows("a<!-- <b> & \" -- -> > -->b<!-- --> --&lt;", "ab --<");
        StringBuilder any = new StringBuilder();
        for (int b = 0; b < 256; b++) {
            any.append((char) b);
        }
        shows("a<!--" + any + "-->b", "ab");
        shows("a<!---->b<!----->c<!------>d", "abcd");
        desk = new Desk();
        broken("<!-->", 5);
        broken("<!--->", 6);
        broken("<!----", 6);
        broken("<!-- -- >", 9);
        broken("<!-", 3);
        broken("<!-x-->", 3);
        broken("<! -- -->", 2);
        broken("<!--\u0000", 5);
        broken("<a><!-- </a>", 12);
    }

    private static void elementsThatAreEmpty() {
        Desk.about("< NAME { FIELD } / > ;");
        desk = new Desk();
        broken("<a/>", -1);
        broken("<a />", -1);
        broken("<a/ >", -1);
        broken("<a\n/\n>", -1);
        broken("<a q=\"\"/>", -1);
        broken("<a/", 3);
        broken("<a//>", 3);
        broken("<a/ q=\"\">", 4);
        broken("<a/></a>", 5);
    }

    private static void sameNameTwice() {
        Desk.about("< NAME { FIELD } > { PIECE } < / NAME > with the same NAME twice");
        desk = new Desk();
        broken("<a></a>", -1);
        broken("<a><b></b></a>", -1);
        broken("<a><a></a></a>", -1);
        broken("<abcdefghijkl></abcdefghijkl>", -1);
        broken("<a><b></a></b>", 8);
        broken("<a></b>", 5);
        broken("<ab></a>", 6);
        broken("<a></ab>", 5);
        broken("<a>x", 4);
        broken("<a><b></b>", 10);
        broken("<abcdefghijklm/>", 1);
        broken("<a1/><1a/>", 6);
    }

    private static void fields() {
        Desk.about("FIELD: NAME = STRING (no two NAMES of an ELEMENT alike; at most 6)");
        desk = new Desk();
        broken("<a b=\"1\" c=\"2\" d=\"3\" e=\"4\" f=\"5\" g=\"6\"/>", -1);
        Desk.due("FIELDS", 6, desk.press.element(0, 3));
        broken("<a b=\"1\" c=\"2\" d=\"3\" e=\"4\" f=\"5\" g=\"6\"></a>", -1);
        broken("<a b=\"1\" c=\"2\" d=\"3\" e=\"4\" f=\"5\" g=\"6\" h=\"7\"/>", 39);
        broken("<a b=\"1\" c=\"2\" d=\"3\" e=\"4\" f=\"5\" g=\"6\" b", 39);
        broken("<a b=\"1\" b=\"1\"/>", 9);
        broken("<a b=\"1\" c=\"2\" b?", 15);
        broken("<a b=\"\"/><a b=\"\"/>", -1);
        broken("<a abcdefghijkl=\"\"/>", -1);
        broken("<a abcdefghijklm=\"\"/>", 3);
        broken("<a B=\"\"/>", 3);
        broken("<a b/>", 4);
        broken("<a b=/>", 5);
        broken("<a b=c/>", 5);
        broken("<a b=\"\u007f\"/>", 5);
        broken("<a b=\"\n\"/>", 5);
        broken("<a b=\" <&>~\"/>", -1);
        broken("<a b=\"", 5);
        Desk.due("an ELEMENT without", 0, new Desk("", "<a/>").press.element(0, 3));
    }

    private static void blanks() {
        Desk.about("Blanks may stand ahead of FIELDS, = , STRING, / and > only, one at least ahead of each FIELD; none behind < or </ or <! or & .");
        desk = new Desk();
        broken("<a \n q \n = \n \"\" \n r=\"\" \n / \n >", -1);
        broken("<a \n ></a \n >", -1);
        broken("<!q \n \"\" \n >", -1);
        broken("<aq=\"\"/>", 3);
        broken("<a q=\"\"r=\"\"/>", 7);
        broken("< a/>", 1);
        broken("<\na/>", 1);
        broken("<a></ a>", 5);
        broken("<a>< /a>", 4);
        broken("<! q\"\">", 2);
        broken("< !q\"\">", 1);
        broken("& lt;", 1);
        broken("&lt\n;", 3);
        broken("<a\t/>", 2);
        broken("<a\r/>", 2);
        broken("<a q\t=\"\"/>", 4);
    }

    private static void brokenBytes() {
        Desk.about("(of </ and <!-- the first byte that is not so; of </ where no ELEMENT is open the / ; of the wrong NAME in an end its first byte)");
        desk = new Desk();
        broken("</a>", 1);
        broken("</", 1);
        broken("x</x>", 2);
        broken("<a/></a>", 5);
        broken("<a></a></a>", 8);
        broken("<a></>", 5);
        broken("<a></A>", 5);
        broken("<a></a!>", 6);
        broken("<a></b!>", 5);
        broken("<a></abcdefghijklm>", 5);
        broken("<a><!x", 6);
        broken("<!-a", 3);
        broken("<!!", 2);
        broken("<?", 1);
        broken("<<", 1);
        broken("<>", 1);
        broken("<=", 1);
    }

    private static void everyCut() {
        Desk.about("its length at the end, if something is missing");
        String text = "<a i=\"x\" >&lt;<!e \"q\">&e;<b/></a>";
        int[] places = {-1, 1, 2, 3, 4, 5, 5, 5, 8, 9, 10, 11, 11, 13, 14, 15, 16, 17, 18, 18, 18, 21, 22, 23, 24, 25, 26, 27,
            28, 29, 30, 31, 32, -1};
        desk = new Desk();
        for (int n = 0; n <= text.length(); n++) {
            broken(text.substring(0, n), places[n]);
        }
    }

    private static void onlyOnce() {
        Desk.about("lt, amp are no ENTITIES and can't be defined, others only once.");
        desk = new Desk();
        broken("<!lt \"x\">", 2);
        broken("<!amp \"x\">", 2);
        broken("<!q \"x\"><!q \"x\">", 10);
        broken("<!q \"\"><a><!q \"\"></a>", 12);
        broken("<!l \"x\"><!ltt \"x\"><!am \"x\">&l;&ltt;&am;", -1);
        Desk.due("lt and amp are none", 3, desk.press.count(1));
        broken("&lt;&amp;", -1);
        Desk.due("lt and amp are none", 0, desk.press.count(1));
    }

    private static void fiveHundred() {
        Desk.about("ELEMENTS are numbered from 0 as they begin, at most 500: one too much is BROKEN at its NAME");
        desk = new Desk();
        broken("<a/>".repeat(500), -1);
        Desk.due("ELEMENTS", 500, desk.press.count(0));
        Desk.due("the last", 1996, desk.press.element(499, 1));
        broken("<a/>".repeat(500) + "x<b?", 2002);
        broken("<a>" + "<a/>".repeat(500) + "</a>", 3 + 499 * 4 + 1);
        Desk.due("the SOURCE before stays", 500, desk.press.count(0));
        desk = new Desk("", "<a><b><c/></b><d/></a><e/>");
        Desk.due("the ones that they are in", "-1 0 1 0 -1", desk.elements(0));
        Desk.due("first bytes", "0 3 6 14 22", desk.elements(1));
        Desk.due("behind the last", "22 14 10 18 26", desk.elements(2));
    }

    private static void twentyDeep() {
        Desk.about("at most 20 in one another: one too much is BROKEN at its NAME");
        desk = new Desk();
        broken("<a>".repeat(20) + "x" + "</a>".repeat(20), -1);
        broken("<a>".repeat(19) + "<b/><b/>" + "</a>".repeat(19) + "<a/>", -1);
        broken("<a>".repeat(21), 61);
        broken("<a>".repeat(20) + "<b/>", 61);
        broken("<a>".repeat(20) + "</a><a></a><a><b", 60 + 4 + 7 + 3 + 1);
    }

    private static void firstOfSeveral() {
        Desk.about("Its ID is the STRING of its FIELD id; of several with the same ID the first counts.");
        desk = new Desk(Desk.SHOWS, "<i x=\"p\"/><i id=\"p\"/><i id=\"p\"/><i id=\"P\"/><i id=\"\"/><i id=\"p \"/>z").set(1);
        Desk.due("the first", 1, desk.where("p", 0));
        Desk.due("of other bytes", 3, desk.where("P", 0));
        Desk.due("the empty one", 4, desk.where("", 0));
        Desk.due("with a blank", 5, desk.where("p ", 0));
        Desk.dueThrow("none", Desk.NONE, () -> desk.where("q", 0));
        desk = new Desk(Desk.SHOWS, "<h id=\"p\"/><i id=\"p\"/>z").set(1);
        Desk.dueThrow("the first counts, if it is not IN FLOW, too", Desk.NONE, () -> desk.where("p", 0));
    }

    private static void textAlone() {
        Desk.about("What ENTITIES stand for is text, nothing else.");
        shows("<!q \">b/\">&q;", ">b/");
        shows("<!q \"--\"><i>&q;</i>", "--");
        desk = new Desk("i[q=\"&amp;\"]{depth:3;}", "<!z \"x\"><i q=\"&amp;\" id=\"&z;\">&z;</i>").set(1);
        Desk.due("a FIELD's STRING is as it stands", 3, desk.press.element(0, 39));
        Desk.due("an ID, too", 0, desk.where("&z;", 0));
        Desk.dueThrow("not what it would stand for", Desk.NONE, () -> desk.where("x", 0));
    }
}
