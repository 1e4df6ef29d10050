/** Promise 8: change. A SOURCE of 16384 bytes takes more feeds than an object has promised calls. */
public final class Promise08ChangeTest {
    private static Desk desk;

    public static void main(String[] args) {
        numbers();
        bytes();
        noSource();
        tooLong();
        broken();
        answers();
        Desk.close("Promise08ChangeTest");
    }

    private static void numbers() {
        Desk.about("0 .. from .. to .. the SOURCE's length (without one: 0 .. from .. to), else IllegalArgumentException.");
        desk = new Desk("", "abcdef");
        int[][] wrong = {{-1, 0}, {-1, -1}, {0, -1}, {1, 0}, {6, 5}, {0, 7}, {7, 7}, {6, 7}, {Integer.MIN_VALUE, 0}, {0, Integer.MAX_VALUE},
            {Integer.MIN_VALUE, Integer.MAX_VALUE}, {Integer.MAX_VALUE, Integer.MAX_VALUE}, {Integer.MAX_VALUE, Integer.MIN_VALUE}};
        for (int[] pair : wrong) {
            Desk.dueThrow("change " + pair[0] + " " + pair[1], Desk.ARGUMENT, () -> desk.change(pair[0], pair[1], "x"));
            Desk.due("bytes", 6, desk.press.count(2));
        }
        int[][] right = {{0, 0}, {0, 6}, {6, 6}, {3, 3}, {5, 6}};
        for (int[] pair : right) {
            desk = new Desk("", "abcdef");
            Desk.due("change " + pair[0] + " " + pair[1], 0, desk.change(pair[0], pair[1], ""));
            Desk.due("bytes", 6 - pair[1] + pair[0], desk.press.count(2));
        }
        desk = new Desk("", "");
        Desk.due("of an empty SOURCE", 0, desk.change(0, 0, "x"));
        Desk.due("bytes", 1, desk.press.count(2));
        Desk.due("its length is another now", 0, desk.change(1, 1, "y"));
    }

    private static void changed(int from, int to, String tape, String due) {
        desk = new Desk("", "abcdef");
        desk.change(from, to, tape);
        desk.press.set(1);
        Desk.due("change " + from + " " + to + " " + tape, due, desk.texts());
    }

    private static void bytes() {
        Desk.about("The bytes of the SOURCE from place from to before to are the TAPE's instead.");
        changed(0, 0, "XY", "XYabcdef");
        changed(6, 6, "XY", "abcdefXY");
        changed(3, 3, "XY", "abcXYdef");
        changed(0, 6, "XY", "XY");
        changed(0, 1, "XY", "XYbcdef");
        changed(5, 6, "X", "abcdeX");
        changed(1, 5, "", "af");
        changed(0, 6, "", "");
        changed(2, 4, "X", "abXef");
    }

    private static void noSource() {
        Desk.about("There is no SOURCE: IllegalStateException");
        desk = new Desk();
        Desk.dueThrow("0 0", Desk.STATE, () -> desk.change(0, 0, "x"));
        Desk.dueThrow("0 MAX_VALUE", Desk.STATE, () -> desk.change(0, Integer.MAX_VALUE, "x"));
        Desk.dueThrow("MAX_VALUE twice", Desk.STATE, () -> desk.change(Integer.MAX_VALUE, Integer.MAX_VALUE, "x"));
        Desk.dueThrow("-1 0", Desk.ARGUMENT, () -> desk.change(-1, 0, "x"));
        Desk.dueThrow("1 0", Desk.ARGUMENT, () -> desk.change(1, 0, "x"));
        Desk.due("the TAPE is not read", 1, desk.tapeLength());
        Desk.due("still no SOURCE", 0, desk.press.count(2));
        Desk.due("place", -1, desk.press.place());
    }

    private static void tooLong() {
        Desk.about("it would have more than 16384: IndexOutOfBoundsException");
        desk = new Desk("", "a".repeat(16000));
        Desk.due("16384", 0, desk.change(0, 0, "b".repeat(384)));
        Desk.due("bytes", 16384, desk.press.count(2));
        Desk.dueThrow("16385", Desk.INDEX, () -> desk.change(16384, 16384, "c"));
        Desk.due("bytes", 16384, desk.press.count(2));
        Desk.due("as many for others", 0, desk.change(0, 384, "d".repeat(384)));
        Desk.dueThrow("one more for others", Desk.INDEX, () -> desk.change(0, 384, "d".repeat(385)));
        Desk.due("one for another", 0, desk.change(16383, 16384, "e"));
        Desk.due("fewer", 0, desk.change(0, 1, ""));
        Desk.due("bytes", 16383, desk.press.count(2));
        Desk.dueThrow("all of it, and BROKEN", Desk.BROKEN, () -> desk.change(16383, 16383, "<"));
        Desk.due("place", 16384, desk.press.place());
    }

    private static void broken() {
        Desk.about("then BROKEN: likewise (the SOURCE before stays)");
        desk = new Desk("", "<a>bc</a>");
        Desk.dueThrow("no end", Desk.BROKEN, () -> desk.change(5, 9, ""));
        Desk.due("place", 5, desk.press.place());
        Desk.dueThrow("within", Desk.BROKEN, () -> desk.change(4, 5, "\t"));
        Desk.due("place in the whole", 4, desk.press.place());
        Desk.dueThrow("a wrong NAME", Desk.BROKEN, () -> desk.change(1, 2, "b"));
        Desk.due("place behind the change", 7, desk.press.place());
        Desk.due("ELEMENTS", 1, desk.press.count(0));
        Desk.due("bytes", 9, desk.press.count(2));
        desk.press.set(1);
        Desk.due("text", "bc", desk.texts());
        Desk.due("a right one", 1, desk.change(4, 5, "d"));
        Desk.due("place", -1, desk.press.place());
        Desk.due("what is SET stays", "bc", desk.texts());
        desk.press.set(1);
        Desk.due("SET anew", "bd", desk.texts());
    }

    private static void answers() {
        Desk.about("Answers how many ELEMENTS.");
        desk = new Desk("", "<a>bc</a>");
        Desk.due("as many", 1, desk.change(3, 4, "x"));
        Desk.due("more", 3, desk.change(4, 4, "<b/><b/>"));
        Desk.due("fewer", 1, desk.change(4, 12, ""));
        Desk.due("none", 0, desk.change(0, 9, ""));
        Desk.due("count", 0, desk.press.count(0));
    }
}
