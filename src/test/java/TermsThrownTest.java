/** Terms, the last sentence: what is thrown, in which order, and that a call that throws changes nothing. */
public final class TermsThrownTest {
    private static final int MIN = Integer.MIN_VALUE;
    private static final int MAX = Integer.MAX_VALUE;

    public static void main(String[] args) {
        argumentFirst();
        stateNext();
        thenAsTheCallSays();
        everyArgument();
        changesNothing();
        againBehindAThrow();
        Desk.close("TermsThrownTest");
    }

    private static final String STYLE = "page{width:20000;height:60000;}" + Desk.SHOWS + "b{first:1;last:1;}d{depth:1;}";
    private static final String SOURCE = "<b id=\"p\">aaaa bb<n>x y</n> cc</b><f/><d>dd</d><k/><t><r><c>e</c></r></t>";

    private static Desk ready() {
        Desk desk = new Desk(STYLE, SOURCE);
        desk.press.set(1);
        desk.press.print(1);
        return desk;
    }

    private static void argumentFirst() {
        Desk.about("What is thrown, in this order: IllegalArgumentException: a number out of range; IllegalStateException; then as the call says.");
        ScholarsPress none = new ScholarsPress();
        Desk.dueThrow("change", Desk.ARGUMENT, () -> none.change(-1, 0));
        Desk.dueThrow("change", Desk.ARGUMENT, () -> none.change(1, 0));
        Desk.dueThrow("set", Desk.ARGUMENT, () -> none.set(0));
        Desk.dueThrow("set", Desk.ARGUMENT, () -> none.set(10));
        Desk.dueThrow("element", Desk.ARGUMENT, () -> none.element(-1, 0));
        Desk.dueThrow("element", Desk.ARGUMENT, () -> none.element(0, 8));
        Desk.dueThrow("line", Desk.ARGUMENT, () -> none.line(0, 7));
        Desk.dueThrow("line", Desk.ARGUMENT, () -> none.line(-1, 7));
        Desk.dueThrow("paragraph", Desk.ARGUMENT, () -> none.paragraph(0, 7));
        Desk.dueThrow("paragraph", Desk.ARGUMENT, () -> none.paragraph(-1, -1));
        Desk.dueThrow("where", Desk.ARGUMENT, () -> none.where(6));
        Desk.dueThrow("note", Desk.ARGUMENT, () -> none.note(0, 6));
        Desk.dueThrow("note", Desk.ARGUMENT, () -> none.note(-1, 14));
        ScholarsPress set = ready().press;
        Desk.dueThrow("line", Desk.ARGUMENT, () -> set.line(99, 7));
        Desk.dueThrow("paragraph", Desk.ARGUMENT, () -> set.paragraph(99, 7));
        Desk.dueThrow("note", Desk.ARGUMENT, () -> set.note(99, 9));
        Desk.dueThrow("where of no ID", Desk.ARGUMENT, () -> set.where(-1));
    }

    private static void stateNext() {
        Desk.about("What is thrown, in this order: ..; IllegalStateException; then as the call says.");
        Desk desk = new Desk();
        ScholarsPress none = desk.press;
        Desk.dueThrow("change of what would be BROKEN", Desk.STATE, () -> desk.change(0, MAX, "<"));
        Desk.dueThrow("set", Desk.STATE, () -> none.set(1));
        Desk.dueThrow("element", Desk.STATE, () -> none.element(MAX, 41));
        Desk.dueThrow("line", Desk.STATE, () -> none.line(-1, 0));
        Desk.dueThrow("line", Desk.STATE, () -> none.line(MAX, 6));
        Desk.dueThrow("spot", Desk.STATE, () -> none.spot(-1, -1));
        Desk.dueThrow("paragraph", Desk.STATE, () -> none.paragraph(MIN, 6));
        Desk.dueThrow("judge", Desk.STATE, () -> desk.judge(-1, "x"));
        Desk.dueThrow("where", Desk.STATE, () -> desk.where("p", 5));
        Desk.dueThrow("note", Desk.STATE, () -> none.note(-1, 13));
        Desk.dueThrow("wavering", Desk.STATE, () -> none.wavering(-1));
        Desk.dueThrow("print", Desk.STATE, () -> none.print(0));
        Desk.about("nothing is SET (a SOURCE alone is not)");
        desk.source("a");
        Desk.dueThrow("line", Desk.STATE, () -> none.line(0, 0));
        Desk.dueThrow("spot", Desk.STATE, () -> none.spot(0, 0));
        Desk.dueThrow("paragraph", Desk.STATE, () -> none.paragraph(0, 0));
        Desk.dueThrow("judge", Desk.STATE, () -> none.judge(0));
        Desk.dueThrow("where", Desk.STATE, () -> none.where(0));
        Desk.dueThrow("note", Desk.STATE, () -> none.note(0, 0));
        Desk.dueThrow("wavering", Desk.STATE, () -> none.wavering(0));
        Desk.dueThrow("print", Desk.STATE, () -> none.print(1));
        Desk.about("nothing is SET (nor by a set that threw)");
        desk.style("page{height:10000;}");
        Desk.dueThrow("set", Desk.ARITHMETIC, () -> none.set(1));
        Desk.dueThrow("line", Desk.STATE, () -> none.line(0, 0));
        Desk.dueThrow("judge", Desk.STATE, () -> none.judge(0));
        Desk.dueThrow("print", Desk.STATE, () -> none.print(1));
        Desk.due("lines", 0, none.count(5));
    }

    private static void thenAsTheCallSays() {
        Desk.about("then as the call says");
        Desk desk = ready();
        ScholarsPress set = desk.press;
        Desk.dueThrow("judge: p is looked at first", Desk.INDEX, () -> desk.judge(99, "x"));
        Desk.dueThrow("judge", Desk.BROKEN, () -> desk.judge(0, "x"));
        Desk.dueThrow("where", Desk.NONE, () -> desk.where("zz", 0));
        Desk.dueThrow("line", Desk.INDEX, () -> set.line(99, 0));
        Desk.dueThrow("spot", Desk.INDEX, () -> set.spot(99, 0));
        Desk.dueThrow("paragraph", Desk.INDEX, () -> set.paragraph(99, 0));
        Desk.dueThrow("note", Desk.INDEX, () -> set.note(99, 0));
        Desk.dueThrow("wavering", Desk.INDEX, () -> set.wavering(99));
        Desk.dueThrow("print", Desk.INDEX, () -> set.print(99));
        Desk.dueThrow("word", Desk.INDEX, () -> set.word(9999));
        desk.source("a".repeat(16384));
        Desk.dueThrow("change: too long is looked at first", Desk.INDEX, () -> desk.change(0, 0, "<"));
        Desk.dueThrow("change", Desk.BROKEN, () -> desk.change(0, 1, "<"));
    }

    private static void everyArgument() {
        Desk.about("a number out of range: one below, one above, Integer.MIN_VALUE, Integer.MAX_VALUE");
        Desk desk = ready();
        ScholarsPress set = desk.press;
        Desk.dueRange("end", 0, 0, Desk.ARGUMENT, n -> set.end(n));
        Desk.dueRange("set", 1, 9, Desk.ARGUMENT, n -> set.set(n));
        Desk.dueRange("element", 0, set.count(0) - 1, Desk.ARGUMENT, e -> set.element(e, 0));
        Desk.dueRange("element what", 0, 7, Desk.ARGUMENT, w -> set.element(0, w));
        Desk.dueRange("element what", 20, 41, Desk.ARGUMENT, w -> set.element(0, w));
        Desk.dueRange("count", 0, 11, Desk.ARGUMENT, w -> set.count(w));
        Desk.dueRange("line what", 0, 6, Desk.ARGUMENT, w -> set.line(0, w));
        Desk.dueRange("line", 0, set.count(5) - 1, Desk.INDEX, l -> set.line(l, 0));
        // the last line is a row
        Desk.dueRange("spot", 0, set.count(5) - 2, Desk.INDEX, l -> set.spot(l, 0));
        Desk.dueRange("spot", 0, 0, Desk.INDEX, w -> set.spot(0, w));
        Desk.dueRange("paragraph what", 0, 6, Desk.ARGUMENT, w -> set.paragraph(0, w));
        Desk.dueRange("paragraph", 0, set.count(6) - 1, Desk.INDEX, p -> set.paragraph(p, 0));
        Desk.dueRange("judge", 0, set.count(6) - 1, Desk.INDEX, p -> desk.judge(p, ""));
        Desk.dueRange("where", 0, 5, Desk.ARGUMENT, w -> desk.where("p", w));
        Desk.dueRange("note what", 0, 5, Desk.ARGUMENT, w -> set.note(0, w));
        Desk.dueRange("note what", 10, 13, Desk.ARGUMENT, w -> set.note(0, w));
        Desk.dueRange("note", 0, 0, Desk.INDEX, n -> set.note(n, 0));
        Desk.dueRange("float", 0, 0, Desk.INDEX, n -> set.note(n, 10));
        Desk.dueRange("wavering", 0, -1, Desk.INDEX, k -> set.wavering(k));
        Desk.dueRange("print", 1, set.count(3), Desk.INDEX, n -> set.print(n));
        int bytes = set.print(1);
        Desk.dueRange("word", 0, bytes - 1, Desk.INDEX, i -> set.word(i));
        Desk.dueRange("change from", 0, 6, Desk.ARGUMENT, from -> new Desk("", "abcdef").press.change(from, 6));
        Desk.dueRange("change to", 0, 6, Desk.ARGUMENT, to -> new Desk("", "abcdef").press.change(0, to));
        Desk.dueRange("change, from above to", 0, 3, Desk.ARGUMENT, from -> new Desk("", "abcdef").press.change(from, 3));
    }

    /** All that may be asked, in short. */
    private static String all(Desk desk) {
        StringBuilder text = new StringBuilder();
        for (int what = 0; what <= 10; what++) {
            text.append(desk.press.count(what)).append(' ');
        }
        for (int what : new int[] {0, 1, 5, 6}) {
            text.append(desk.lines(what)).append('\n');
        }
        text.append(desk.paragraphs(0)).append('\n').append(desk.elements(2)).append('\n').append(desk.elements(20)).append('\n');
        text.append(desk.press.note(0, 5)).append(' ').append(desk.press.note(0, 12)).append(' ').append(desk.press.word(0));
        return text.toString();
    }

    private static void nothing(String call, Class<?> thrown, java.util.function.ToLongFunction<Desk> body) {
        Desk desk = ready();
        String before = all(desk);
        int place = desk.press.place();
        Desk.dueThrow(call, thrown, () -> body.applyAsLong(desk));
        Desk.due("all behind " + call, before, all(desk));
        Desk.due("PARAGRAPHS that were new", 5, desk.press.count(11));
        if (thrown != Desk.BROKEN) {
            Desk.due("place behind " + call, place, desk.press.place());
        }
        desk.press.set(1);
        desk.press.print(1);
        Desk.due("all SET anew behind " + call, before, all(desk));
        Desk.due("PARAGRAPHS that are new now", 0, desk.press.count(11));
    }

    private static void changesNothing() {
        Desk.about("A call that throws changes nothing, but as said.");
        nothing("font", Desk.BROKEN, d -> d.font("width\"a\"5000;?"));
        nothing("hyphens", Desk.BROKEN, d -> d.hyphens("ends 11 a1a ?"));
        nothing("style", Desk.BROKEN, d -> d.style("page{width:10000;}*{show:none;}?"));
        nothing("source", Desk.BROKEN, d -> d.source("<a/><b"));
        nothing("change", Desk.BROKEN, d -> d.change(0, 5, "<!q \"\"><"));
        nothing("change", Desk.ARGUMENT, d -> d.change(5, 4, "x"));
        nothing("set 0", Desk.ARGUMENT, d -> d.press.set(0));
        nothing("element", Desk.ARGUMENT, d -> d.press.element(0, 42));
        nothing("line", Desk.INDEX, d -> d.press.line(99, 0));
        nothing("spot", Desk.INDEX, d -> d.press.spot(0, 99));
        nothing("judge", Desk.BROKEN, d -> d.judge(0, "9"));
        nothing("where", Desk.NONE, d -> d.where("zz", 0));
        nothing("print", Desk.INDEX, d -> d.press.print(99));
        nothing("word", Desk.INDEX, d -> d.press.word(-1));
        nothing("end", Desk.ARGUMENT, d -> d.press.end(1));
    }

    private static void againBehindAThrow() {
        Desk.about("A call that throws changes nothing (and so the same call again throws the same, and a right one is answered)");
        Desk desk = ready();
        ScholarsPress set = desk.press;
        for (int again = 0; again < 2; again++) {
            Desk.dueThrow("line", Desk.INDEX, () -> set.line(99, 0));
            Desk.due("line", 0, set.line(0, 0));
            Desk.dueThrow("line what", Desk.ARGUMENT, () -> set.line(0, 7));
            Desk.dueThrow("spot", Desk.INDEX, () -> set.spot(0, 9));
            Desk.due("spot", 0, set.spot(0, 0));
            Desk.dueThrow("paragraph", Desk.INDEX, () -> set.paragraph(99, 0));
            Desk.due("paragraph", 0, set.paragraph(0, 6));
            Desk.dueThrow("note", Desk.INDEX, () -> set.note(1, 0));
            Desk.due("note", 1, set.note(0, 0));
            Desk.dueThrow("where", Desk.NONE, () -> desk.where("zz", 0));
            Desk.due("where", 0, desk.where("p", 0));
            Desk.dueThrow("judge", Desk.BROKEN, () -> desk.judge(0, "0"));
            Desk.dueThrow("judge", Desk.INDEX, () -> desk.judge(-1, "1"));
            Desk.due("judge", set.paragraph(1, 0), desk.judge(1, ""));
            Desk.dueThrow("print", Desk.INDEX, () -> set.print(0));
            Desk.dueThrow("style", Desk.BROKEN, () -> desk.style("?"));
            Desk.due("place", 0, set.place());
            Desk.dueThrow("source", Desk.BROKEN, () -> desk.source(" <"));
            Desk.due("place", 2, set.place());
            Desk.due("style", 13, desk.style(STYLE));
            Desk.due("place", -1, set.place());
            Desk.dueThrow("set", Desk.ARGUMENT, () -> set.set(10));
        }
    }
}
