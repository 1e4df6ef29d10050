/** Promises 7, 8, 9, 11, 12: source, change, place, and what is told of the SOURCE. */
public final class SourceTest {
    private static Desk desk;

    public static void main(String[] args) {
        answers();
        brokenTexts();
        limits();
        elements();
        changes();
        places();
        Desk.close("SourceTest");
    }

    private static void answers() {
        desk = new Desk();
        Desk.due("empty SOURCE", 0, desk.source(""));
        Desk.due("text", 0, desk.source("a\n~ &lt;&amp;"));
        Desk.due("ELEMENTS", 4, desk.source("<a><b x=\"<&>\" y = \"\"\n/><b\n>x</b\n></a><c1/ >"));
        Desk.due("ENTITIES", 0, desk.source("<!x \"y\"><!y\n\"&\"\n>".replace("&", "z") + "&x;&y;<!-- <a> & \t --><!---->"));
        Desk.due("how many ENTITIES", 2, desk.press.count(1));
        Desk.due("place", -1, desk.press.place());
    }

    private static void brokenTexts() {
        desk = new Desk();
        desk.broken("source", "a\tb", 1);
        desk.broken("source", "a\u0080", 1);
        desk.broken("source", "<", 1);
        desk.broken("source", "a<", 2);
        desk.broken("source", "<>", 1);
        desk.broken("source", "<A/>", 1);
        desk.broken("source", "<a", 2);
        desk.broken("source", "<a ", 3);
        desk.broken("source", "<a/", 3);
        desk.broken("source", "<a/x>", 3);
        desk.broken("source", "<a x>", 4);
        desk.broken("source", "<a x=>", 5);
        desk.broken("source", "<a x=\"y>", 5);
        desk.broken("source", "<a x=y\"z\"/>", 5);
        desk.broken("source", "<!x y\"z\">", 4);
        desk.broken("source", "<z9az x=\"~ !\"></z9az>", -1);
        desk.broken("source", "<a x=\"y\nz\">", 5);
        desk.broken("source", "<a x=\"y\" =>", 9);
        desk.broken("source", "<a x=\"y\" x=\"z\"/>", 9);
        desk.broken("source", "<a=\"y\">", 2);
        desk.broken("source", "<a _=\"y\">", 3);
        desk.broken("source", "<a>", 3);
        desk.broken("source", "<a><b></a>", 8);
        desk.broken("source", "<a></", 5);
        desk.broken("source", "<a></>", 5);
        desk.broken("source", "<a></a", 6);
        desk.broken("source", "<a></a b>", 7);
        desk.broken("source", "<a></aa>", 5);
        desk.broken("source", "<a></abcdefghijklm>", 5);
        desk.broken("source", "<a/></a>", 5);
        desk.broken("source", "<a>< /a>", 4);
        desk.broken("source", "<!", 2);
        desk.broken("source", "<!-", 3);
        desk.broken("source", "<!--", 4);
        desk.broken("source", "<!-->", 5);
        desk.broken("source", "<!--->", 6);
        desk.broken("source", "<!---->", -1);
        desk.broken("source", "<! x \"y\">", 2);
        desk.broken("source", "<!amp \"y\">", 2);
        desk.broken("source", "<!x>", 3);
        desk.broken("source", "<!x \"&\">", 4);
        desk.broken("source", "<!x \"y\"", 7);
        desk.broken("source", "<!x \"y\"/>", 7);
        desk.broken("source", "<!x \"y\"><!x \"y\">", 10);
        desk.broken("source", "&", 1);
        desk.broken("source", "& lt;", 1);
        desk.broken("source", "&1;", 1);
        desk.broken("source", "&lt:", 3);
        desk.broken("source", "&y", 1);
        desk.broken("source", "&x;<!x \"y\">", 1);
        desk.broken("source", "&abcdefghijklm;", 1);
    }

    private static void limits() {
        desk = new Desk();
        Desk.due("500 ELEMENTS", 500, desk.source("<a/>".repeat(500)));
        desk.broken("source", "<a/>".repeat(500) + "<b/>", 2001);
        Desk.due("20 in one another", 21, desk.source("<a>".repeat(20) + "</a>".repeat(20) + "<b/>"));
        desk.broken("source", "<a>".repeat(20) + "<b/>" + "</a>".repeat(20), 61);
        Desk.due("6 FIELDS", 1, desk.source("<a a=\"\" b=\"\" c=\"\" d=\"\" e=\"\" f=\"\"/>"));
        desk.broken("source", "<a a=\"\" b=\"\" c=\"\" d=\"\" e=\"\" f=\"\" g=\"\"/>", 33);
        StringBuilder entities = new StringBuilder();
        for (int k = 0; k < 40; k++) {
            entities.append("<!e").append(k).append("\"\">");
        }
        Desk.due("40 ENTITIES", 0, desk.source(entities.toString()));
        Desk.due("how many", 40, desk.press.count(1));
        desk.broken("source", entities + "<!x\"\">", entities.length() + 2);
        Desk.due("the SOURCE before stays", 40, desk.press.count(1));
        Desk.due("a NAME of 12", 1, desk.source("<a12345678901/>"));
    }

    private static void elements() {
        desk = new Desk();
        desk.source("x<a p=\"1\" q=\"\"><b/> <b>y</b ></a><c></c>");
        int[][] due = {{-1, 1, 33, 2}, {0, 15, 19, 0}, {0, 20, 29, 0}, {-1, 33, 40, 0}};
        for (int e = 0; e < 4; e++) {
            for (int what = 0; what < 4; what++) {
                Desk.due("element " + e + " " + what, due[e][what], desk.press.element(e, what));
            }
        }
        Desk.due("ELEMENTS", 4, desk.press.count(0));
        Desk.due("bytes", 40, desk.press.count(2));
        Desk.dueThrow("count -1", Desk.ARGUMENT, () -> desk.press.count(-1));
        Desk.dueThrow("count 12", Desk.ARGUMENT, () -> desk.press.count(12));
    }

    private static void changes() {
        desk = new Desk();
        ScholarsPress x = desk.press;
        desk.tape("keep");
        Desk.dueThrow("change without SOURCE, a number out of range", Desk.ARGUMENT, () -> x.change(2, 1));
        Desk.dueThrow("change without SOURCE, a number out of range", Desk.ARGUMENT, () -> x.change(-1, 1));
        Desk.dueThrow("change without SOURCE", Desk.STATE, () -> x.change(5, 100000));
        Desk.due("the TAPE is not read then", 4, desk.tapeLength());
        desk.source("<a>xy</a>");
        desk.tape("keep");
        Desk.dueThrow("to too great", Desk.ARGUMENT, () -> x.change(0, 10));
        Desk.dueThrow("from above to", Desk.ARGUMENT, () -> x.change(4, 3));
        Desk.due("the TAPE is not read then", 4, desk.tapeLength());
        Desk.due("a change within", 3, desk.change(3, 4, "<b/>z<c/>"));
        Desk.due("bytes", 17, x.count(2));
        Desk.due("the TAPE is empty", 0, desk.tapeLength());
        Desk.due("behind the end", 4, desk.change(17, 17, "<d/>"));
        Desk.due("where it is", 17, x.element(3, 1));
        Desk.due("with nothing", 3, desk.change(17, 21, ""));
        Desk.due("all of it", 0, desk.change(0, 17, "q"));
        Desk.due("bytes", 1, x.count(2));
        Desk.dueThrow("BROKEN", Desk.BROKEN, () -> desk.change(0, 0, "</a>"));
        Desk.due("place", 1, x.place());
        Desk.due("the SOURCE before stays", 1, x.count(2));
        desk.source("a".repeat(16000));
        Desk.due("place", -1, x.place());
        Desk.dueThrow("BROKEN", Desk.BROKEN, () -> desk.change(0, 0, "<"));
        Desk.dueThrow("too long", Desk.INDEX, () -> desk.change(0, 0, "b".repeat(385)));
        Desk.due("place, since it is not BROKEN", -1, x.place());
        Desk.due("the TAPE is empty then", 0, desk.tapeLength());
        Desk.due("bytes", 16000, x.count(2));
        Desk.due("as long as may be", 0, desk.change(0, 0, "b".repeat(384)));
        Desk.due("bytes", 16384, x.count(2));
        Desk.due("a part for another", 0, desk.change(16383, 16384, "c"));
    }

    private static void places() {
        desk = new Desk();
        ScholarsPress x = desk.press;
        desk.broken("font", "?", 0);
        desk.broken("style", "  ?", 2);
        Desk.due("a call that does not read the TAPE leaves place", 0, x.count(0));
        Desk.due("place", 2, x.place());
        Desk.dueThrow("judge without SET", Desk.STATE, () -> desk.judge(0, "x"));
        Desk.due("place after a call that did not read the TAPE", 2, x.place());
        Desk.due("the TAPE stays", 1, desk.tapeLength());
        desk.source("a b");
        Desk.due("place", -1, x.place());
        x.set(1);
        Desk.dueThrow("judge", Desk.BROKEN, () -> desk.judge(0, " x"));
        Desk.due("place", 1, x.place());
        Desk.dueThrow("where does not tell place", Desk.NONE, () -> desk.where("?", 0));
        Desk.due("place", 1, x.place());
        Desk.dueThrow("judge of no PARAGRAPH", Desk.INDEX, () -> desk.judge(1, "x"));
        Desk.due("place", -1, x.place());
        Desk.due("the TAPE is empty then", 0, desk.tapeLength());
    }
}
