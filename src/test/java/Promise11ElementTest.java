/** Promise 11: element. */
public final class Promise11ElementTest {
    private static Desk desk;

    public static void main(String[] args) {
        numbers();
        places();
        byTheStyle();
        properties();
        noSource();
        Desk.close("Promise11ElementTest");
    }

    private static void numbers() {
        Desk.about("ELEMENT e of the SOURCE (without one any from 0 on may be told); what 0 .. 7, 20 .. 41");
        desk = new Desk("", "<a/><b/><c/>");
        Desk.dueRange("element", 0, 2, Desk.ARGUMENT, e -> desk.press.element(e, 0));
        Desk.dueRange("what", 0, 7, Desk.ARGUMENT, what -> desk.press.element(0, what));
        Desk.dueRange("what", 20, 41, Desk.ARGUMENT, what -> desk.press.element(0, what));
        for (int what = 8; what < 20; what++) {
            int between = what;
            Desk.dueThrow("what " + what, Desk.ARGUMENT, () -> desk.press.element(0, between));
        }
        desk.source("");
        Desk.dueThrow("of a SOURCE without ELEMENTS", Desk.ARGUMENT, () -> desk.press.element(0, 0));
        desk.source("<a/>".repeat(500));
        Desk.dueRange("of 500", 0, 499, Desk.ARGUMENT, e -> desk.press.element(e, 41));
    }

    private static void places() {
        Desk.about("what 0: the one that it is in, -1 without; 1, 2: the places of its first byte and behind its last; 3: its FIELDS");
        desk = new Desk("", "x<a p=\"\" q=\"\"><b/ ><c></c\n>y</a> <d/>");
        Desk.due("the one that it is in", "-1 0 0 -1", desk.elements(0));
        Desk.due("first bytes", "1 14 19 33", desk.elements(1));
        Desk.due("behind the last", "32 19 27 37", desk.elements(2));
        Desk.due("FIELDS", "2 0 0 0", desk.elements(3));
        desk.source("<a>".repeat(20) + "</a>".repeat(20));
        Desk.due("the deepest", 18, desk.press.element(19, 0));
        Desk.due("its bytes", "57 64", desk.press.element(19, 1) + " " + desk.press.element(19, 2));
        desk.source("<!-- --><a/>");
        Desk.due("behind a comment", "8", desk.elements(1));
    }

    private static void byTheStyle() {
        Desk.about("by the STYLE. 4: 1 if SHOWN; 5: VALUE; 6: bytes of its TITLE; 7: 1 if it is IN FLOW");
        desk = new Desk(Desk.SHOWS + "i{step:p;}", "<i>abc</i><h>abc<i/></h><n><i>a</i></n>");
        Desk.due("SHOWN", "1 0 0 1 1", desk.elements(4));
        Desk.due("VALUES", "1 0 0 0 2", desk.elements(5));
        Desk.due("TITLES", "3 0 0 1 1", desk.elements(6));
        Desk.due("IN FLOW", "1 0 0 1 0", desk.elements(7));
        desk.style("");
        Desk.due("SHOWN by another STYLE", "1 1 1 1 1", desk.elements(4));
        Desk.due("VALUES by another STYLE", "0 0 0 0 0", desk.elements(5));
        Desk.due("TITLES by another STYLE", "3 3 0 1 1", desk.elements(6));
        Desk.due("IN FLOW by another STYLE", "1 1 1 1 1", desk.elements(7));
        desk.press.set(1);
        desk.change(3, 6, "q");
        Desk.due("TITLES of what the SOURCE is now", "1 3 0 1 1", desk.elements(6));
    }

    private static void properties() {
        Desk.about("20 .. 41: PROPERTY what - 20.");
        desk = new Desk("a{show:term;size:1001;lead:1002;indent:1003;left:1004;right:1005;above:1006;below:1007;align:middle;hyphens:yes;"
                + "tolerance:1010;first:3;last:4;keep:yes;count:yes;step:p;reset:q;label:\"\";form:letter;depth:7;head:yes;height:1021;}", "<a/>");
        int[] due = {11, 1001, 1002, 1003, 1004, 1005, 1006, 1007, 3, 1, 1010, 3, 4, 1, 1, 1, 2, 1, 2, 7, 1, 1021};
        for (int q = 0; q < due.length; q++) {
            Desk.due("PROPERTY " + q, due[q], desk.press.element(0, 20 + q));
        }
    }

    private static void noSource() {
        Desk.about("No SOURCE: IllegalStateException.");
        ScholarsPress x = new ScholarsPress();
        for (int e : new int[] {0, 1, 499, 500, Integer.MAX_VALUE}) {
            Desk.dueThrow("element " + e, Desk.STATE, () -> x.element(e, 0));
            Desk.dueThrow("element " + e, Desk.STATE, () -> x.element(e, 41));
        }
        for (int e : new int[] {-1, Integer.MIN_VALUE}) {
            Desk.dueThrow("element " + e, Desk.ARGUMENT, () -> x.element(e, 0));
        }
        for (int what : new int[] {-1, 8, 19, 42, Integer.MIN_VALUE, Integer.MAX_VALUE}) {
            Desk.dueThrow("what " + what, Desk.ARGUMENT, () -> x.element(0, what));
        }
    }
}
