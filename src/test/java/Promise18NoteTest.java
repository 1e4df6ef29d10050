/** Promise 18: note. */
public final class Promise18NoteTest {
    private static Desk desk;

    public static void main(String[] args) {
        notes();
        floats();
        withoutLines();
        numbers();
        Desk.close("Promise18NoteTest");
    }

    private static String all(int n, int from, int to) {
        StringBuilder text = new StringBuilder();
        for (int what = from; what <= to; what++) {
            text.append(what > from ? " " : "").append(desk.press.note(n, what));
        }
        return text.toString();
    }

    private static void notes() {
        Desk.about("NOTE n (from 0), what 0: its ELEMENT, 1: the line that calls it, 2: its lines, 3: the column with its first line, 4: its lines in that, 5: the top of the first.");
        desk = new Desk("page{width:10000;height:66000;}" + Desk.SHOWS + "b{first:1;last:1;}", "<b>aa b<n>w x y z</n> c<n/></b>");
        desk.press.set(1);
        // NOTE 0 has five lines: aa, b1 and three of them; then c2, two of them and NOTE 1
        Desk.due("NOTE 0", "1 1 5 0 3 30000", all(0, 0, 5));
        Desk.due("NOTE 1", "2 2 1 1 1 54000", all(1, 0, 5));
        Desk.due("text", "aa|b1|1|w|x||c2|y|z|2", desk.texts());
        desk = new Desk("page{height:100000;}" + Desk.SHOWS + "n{lead:9000;}", "a<n/><n/><n/>").set(1);
        Desk.due("tops", "73000 82000 91000", desk.press.note(0, 5) + " " + desk.press.note(1, 5) + " " + desk.press.note(2, 5));
    }

    private static void floats() {
        Desk.about("float n: what 10: its ELEMENT, 11: the line that calls it, 12: its column, 13: its top");
        desk = new Desk("page{width:10000;height:36000;}" + Desk.SHOWS + "f{height:9000;}", "<b>aa</b><f/><f/><f/>bb");
        desk.press.set(1);
        // bb calls them: aa, bb and one of them; then two
        Desk.due("float 0", "1 1 0 0", all(0, 10, 13));
        Desk.due("float 1", "2 1 1 0", all(1, 10, 13));
        Desk.due("float 2", "3 1 1 9000", all(2, 10, 13));
    }

    private static void withoutLines() {
        Desk.about("(without lines -1, -1, 0)");
        desk = new Desk(Desk.SHOWS + "f{height:9000;}", "<f/> <f/>").set(1);
        Desk.due("float 0", "0 -1 -1 0", all(0, 10, 13));
        Desk.due("float 1", "1 -1 -1 0", all(1, 10, 13));
        Desk.dueThrow("float 2", Desk.INDEX, () -> desk.press.note(2, 10));
    }

    private static void numbers() {
        Desk.about("note(n, what): what 0 .. 5, 10 .. 13, else IllegalArgumentException; nothing is SET: IllegalStateException; no such: IndexOutOfBoundsException");
        desk = new Desk(Desk.SHOWS, "a<n/><n/><f/>");
        Desk.dueThrow("nothing SET", Desk.STATE, () -> desk.press.note(0, 0));
        Desk.dueThrow("nothing SET", Desk.STATE, () -> desk.press.note(-1, 13));
        Desk.dueThrow("nothing SET", Desk.ARGUMENT, () -> desk.press.note(0, 6));
        desk.press.set(1);
        for (int what : new int[] {Integer.MIN_VALUE, -1, 6, 7, 8, 9, 14, Integer.MAX_VALUE}) {
            Desk.dueThrow("what " + what, Desk.ARGUMENT, () -> desk.press.note(0, what));
            Desk.dueThrow("what " + what + " of none", Desk.ARGUMENT, () -> desk.press.note(9, what));
        }
        for (int what = 0; what <= 13; what++) {
            int each = what;
            if (what <= 5) {
                Desk.dueRange("NOTE", 0, 1, Desk.INDEX, n -> desk.press.note(n, each));
            } else if (what >= 10) {
                Desk.dueRange("float", 0, 0, Desk.INDEX, n -> desk.press.note(n, each));
            }
        }
        desk.source("a");
        Desk.due("of what is SET", 0, desk.press.note(0, 0));
        desk.press.set(1);
        Desk.dueThrow("no NOTES", Desk.INDEX, () -> desk.press.note(0, 0));
        Desk.dueThrow("no floats", Desk.INDEX, () -> desk.press.note(0, 10));
    }
}
