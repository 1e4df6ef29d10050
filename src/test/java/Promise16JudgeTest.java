/** Promise 16: judge. */
public final class Promise16JudgeTest {
    private static Desk desk;

    public static void main(String[] args) {
        costs();
        notAllowed();
        broken();
        paragraphFirst();
        ofWhatWasSet();
        Desk.close("Promise16JudgeTest");
    }

    private static void press() {
        // aaaa bbbb misses 5000 of a stretch of 2500: 2000, of BADNESS 800; BREAKS 1 2 3 and the END
        desk = new Desk("page{width:50000;}b{show:block;tolerance:800;}", "<b>aaaa bbbb cc dd</b>").set(1);
    }

    private static void costs() {
        Desk.about("The TAPE has NUMBERS with blanks between, rising, BREAKS of PARAGRAPH p but the END: the COST in all of its lines if they end there");
        press();
        long cost = 810 * 810 + 10000 + 100 + 10000;
        Desk.due("the row that was taken", desk.press.paragraph(0, 0), desk.judge(0, "2"));
        Desk.due("its COST", cost, desk.judge(0, "2"));
        Desk.due("blanks", cost, desk.judge(0, " \n2\n\n "));
        Desk.due("zeros ahead", cost, desk.judge(0, "0000002"));
        Desk.due("place", -1, desk.press.place());
        desk = new Desk("page{width:10000;}b{show:block;}", "<b>aaa bbb ccc</b>").set(1);
        long tooLong = 10010L * 10010L + 1000000000L;
        Desk.due("TOLD", 10001, desk.press.paragraph(0, 3));
        Desk.due("all BREAKS", 3 * (tooLong + 5000), desk.judge(0, "1 2"));
        Desk.due("blanks of both kinds", 3 * (tooLong + 5000), desk.judge(0, "1\n2"));
        Desk.due("no BREAK: one line", tooLong + 55000 - 2 * 1666 - 10000, desk.judge(0, ""));
        Desk.due("blanks alone", tooLong + 55000 - 2 * 1666 - 10000, desk.judge(0, " \n "));
        desk = new Desk("", "a").set(1);
        Desk.due("a PARAGRAPH of the END alone", 100, desk.judge(0, ""));
        Desk.dueThrow("it has no other BREAK", Desk.BROKEN, () -> desk.judge(0, "1"));
    }

    private static void notAllowed() {
        Desk.about("-1 if a line is not allowed by the tolerance that it took");
        press();
        Desk.due("a WORD alone in a line", -1, desk.judge(0, "1"));
        Desk.due("TOO LONG", -1, desk.judge(0, ""));
        Desk.due("the last lines", -1, desk.judge(0, "2 3"));
        Desk.due("place", -1, desk.press.place());
        desk = new Desk("page{width:50000;}b{show:block;tolerance:799;}", "<b>aaaa bbbb cc dd</b>").set(1);
        Desk.due("TOLD", 10000, desk.press.paragraph(0, 3));
        Desk.due("BADNESS 800", 810 * 810 + 10000 + 100 + 10000, desk.judge(0, "2"));
        // bbbb cc misses 15000: BADNESS 10000, too
        Desk.due("BADNESS 10000 of two lines", 10010L * 10010L + 10000 + 10010L * 10010L + 100 + 10000, desk.judge(0, "1 3"));
        Desk.due("TOO LONG", -1, desk.judge(0, "3"));
    }

    private static void brokenAt(String row, int place) {
        Desk.dueThrow("judge " + row, Desk.BROKEN, () -> desk.judge(0, row));
        Desk.due("place of " + row, place, desk.press.place());
        Desk.due("the TAPE is empty", 0, desk.tapeLength());
    }

    private static void broken() {
        Desk.about("It is none such (a NUMBER that is none, too great, not above the one before; a byte that can't be there): UnsupportedOperationException, BROKEN at its first byte.");
        press();
        brokenAt("0", 0);
        brokenAt("1 0", 2);
        brokenAt("4", 0);
        brokenAt("3 4", 2);
        brokenAt("5", 0);
        brokenAt("9999999", 0);
        brokenAt("00000001", 0);
        brokenAt("1 12345678", 2);
        brokenAt("2 2", 2);
        brokenAt("2 1", 2);
        brokenAt("1 2 2 3", 4);
        brokenAt("x", 0);
        brokenAt("1x", 1);
        brokenAt("1 x", 2);
        brokenAt("1,2", 1);
        brokenAt("-1", 0);
        brokenAt("1\t2", 1);
        brokenAt("1 \u0080", 2);
        brokenAt("\"1\"", 0);
        brokenAt("1 2 3 \u0000", 6);
        Desk.due("a right one behind them", -1, desk.judge(0, "1 2 3"));
        Desk.due("place", -1, desk.press.place());
    }

    private static void paragraphFirst() {
        Desk.about("(p is looked at first; the TAPE is empty then, too.)");
        press();
        Desk.dueRange("judge", 0, 0, Desk.INDEX, p -> desk.judge(p, "2"));
        Desk.dueThrow("judge", Desk.INDEX, () -> desk.judge(1, "x"));
        Desk.due("the TAPE is empty", 0, desk.tapeLength());
        Desk.due("place", -1, desk.press.place());
        ScholarsPress none = new ScholarsPress();
        Desk.dueThrow("nothing SET", Desk.STATE, () -> none.judge(0));
        Desk.dueThrow("nothing SET", Desk.STATE, () -> none.judge(-1));
    }

    private static void ofWhatWasSet() {
        Desk.about("BREAKS of PARAGRAPH p (as it was SET)");
        desk = new Desk("page{width:15000;}" + Desk.SHOWS, "<t><r><c>aa</c></r></t><b>b<n>x</n></b>").set(1);
        Desk.due("a cell", 100, desk.judge(0, ""));
        Desk.due("one of FLOW", 100, desk.judge(1, ""));
        Desk.due("a NOTE", 100, desk.judge(2, ""));
        desk.font("width\"a\"5000;");
        desk.style("page{width:10000;}");
        desk.source("");
        Desk.due("others are there now", 100, desk.judge(2, ""));
        Desk.dueNoThrow("a BREAK of the NOTE", () -> desk.judge(2, "1"));
        desk.press.set(1);
        Desk.dueThrow("it is SET anew", Desk.INDEX, () -> desk.judge(0, ""));
    }
}
