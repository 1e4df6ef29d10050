/** Promise 17: where. */
public final class Promise17WhereTest {
    private static Desk desk;

    public static void main(String[] args) {
        whats();
        notThere();
        withoutLines();
        numbers();
        ofWhatWasSet();
        Desk.close("Promise17WhereTest");
    }

    private static String all(String id) {
        StringBuilder text = new StringBuilder();
        for (int what = 0; what <= 5; what++) {
            text.append(what > 0 ? " " : "").append(desk.where(id, what));
        }
        return text.toString();
    }

    private static void whats() {
        Desk.about("The TAPE is an ID of what was SET, what 0: its ELEMENT, 1: its PAGE, 2: LINE, 3, 4: the lines of FLOW in which it begins, ends; 5: VALUE.");
        desk = new Desk("page{width:10000;height:24000;lines:all;}" + Desk.SHOWS + "b{count:yes;step:p;first:1;last:1;}",
                "<b id=\"p\">aa bb</b><b id=\"q r\">cc <i id=\"\">dd</i></b><i id=\"s\"/>ee<f id=\"" + "x".repeat(50) + "\"/><b id=\"&lt;\"/>");
        desk.press.set(1);
        Desk.due("p", "0 1 1 0 1 1", all("p"));
        Desk.due("an ID with a blank", "1 2 3 2 3 2", all("q r"));
        Desk.due("the empty ID", "2 2 4 3 3 0", all(""));
        Desk.due("one without text", "3 3 0 4 4 0", all("s"));
        Desk.due("a long one, of a float", "4 3 0 4 4 0", all("x".repeat(50)));
        Desk.due("one with &", "5 3 0 4 4 3", all("&lt;"));
    }

    private static void notThere() {
        Desk.about("The (first) ELEMENT that has it is not there, or not IN FLOW: NoSuchElementException.");
        desk = new Desk(Desk.SHOWS, "<i id=\"p\">x</i><h id=\"q\"/><i id=\"q\"/><n id=\"r\"><i id=\"s\"/></n><t><r id=\"u\"><c id=\"v\"><i id=\"w\"/></c></r></t>");
        desk.press.set(1);
        for (String id : new String[] {"", "P", "pp", "p ", " p", "q", "s", "w", "z", "\u0000", "\u00f0", "x".repeat(100)}) {
            for (int what = 0; what <= 5; what++) {
                int each = what;
                Desk.dueThrow("where " + id, Desk.NONE, () -> desk.where(id, each));
            }
            Desk.due("the TAPE is empty", 0, desk.tapeLength());
        }
        for (String id : new String[] {"p", "r", "u", "v"}) {
            Desk.dueNoThrow("where " + id, () -> desk.where(id, 0));
        }
        desk.source("<i id=\"p\"/>".repeat(500));
        desk.press.set(1);
        Desk.dueThrow("of 500 ELEMENTS none", Desk.NONE, () -> desk.where("q", 0));
        Desk.due("the first of 500", 0, desk.where("p", 0));
    }

    private static void withoutLines() {
        Desk.about("-1 for 3, 4 without lines.");
        desk = new Desk(Desk.SHOWS + "i{step:p;}", "<i/><i id=\"p\"/> <f id=\"q\"/>");
        desk.press.set(1);
        Desk.due("p", "1 0 0 -1 -1 2", all("p"));
        Desk.due("q", "2 0 0 -1 -1 0", all("q"));
    }

    private static void numbers() {
        Desk.about("where(what): what 0 .. 5, else IllegalArgumentException; nothing is SET: IllegalStateException");
        desk = new Desk("", "<i id=\"p\">x</i>");
        Desk.dueThrow("nothing SET", Desk.STATE, () -> desk.where("p", 0));
        Desk.due("the TAPE stays", 1, desk.tapeLength());
        Desk.dueThrow("nothing SET", Desk.ARGUMENT, () -> desk.where("p", 6));
        Desk.dueThrow("nothing SET", Desk.ARGUMENT, () -> desk.where("p", -1));
        desk.press.set(1);
        Desk.dueRange("where", 0, 5, Desk.ARGUMENT, what -> desk.where("p", what));
        Desk.dueThrow("of no ID", Desk.ARGUMENT, () -> desk.where("q", 6));
        Desk.due("the TAPE stays", 1, desk.tapeLength());
    }

    private static void ofWhatWasSet() {
        Desk.about("an ID of what was SET");
        desk = new Desk("i{step:p;}", "<i/><i id=\"p\">x</i>").set(1);
        desk.source("<a id=\"q\"/>");
        desk.style("*{show:none;}");
        Desk.due("p", "1 1 0 0 0 2", all("p"));
        Desk.dueThrow("q", Desk.NONE, () -> desk.where("q", 0));
        desk.press.set(1);
        Desk.dueThrow("p, SET anew", Desk.NONE, () -> desk.where("p", 0));
        Desk.dueThrow("q is not IN FLOW", Desk.NONE, () -> desk.where("q", 0));
    }
}
