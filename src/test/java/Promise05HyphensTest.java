/** Promise 5: hyphens. */
public final class Promise05HyphensTest {
    private static Desk desk;

    public static void main(String[] args) {
        theTape();
        theOneBeforeStays();
        answers();
        Desk.close("Promise05HyphensTest");
    }

    private static long breaks() {
        desk.press.set(1);
        return desk.press.paragraph(0, 2);
    }

    private static void theTape() {
        Desk.about("The TAPE is the HYPHENS.");
        desk = new Desk("b{show:block;hyphens:yes;}", "<b>aaabbb</b>");
        Desk.due("none yet", 1, breaks());
        desk.hyphens("a1b");
        Desk.due("what is SET stays", 1, desk.press.paragraph(0, 2));
        Desk.due("SET anew", 2, breaks());
        desk.hyphens("ends 11 b1b");
        Desk.due("nothing of the one before", 3, breaks());
        desk.hyphens("a1b");
        Desk.due("its ends, too", 2, breaks());
        desk.hyphens("");
        Desk.due("an empty one", 1, breaks());
    }

    private static void theOneBeforeStays() {
        Desk.about("BROKEN: UnsupportedOperationException, PLACE is told, the one before stays");
        desk = new Desk("b{show:block;hyphens:yes;}", "<b>aaabbb</b>");
        desk.hyphens("a1b");
        desk.broken("hyphens", "ends 11 b1b ?", 12);
        Desk.due("it stays", 2, breaks());
        desk.broken("hyphens", "b1b ends", 8);
        Desk.due("it stays", 2, breaks());
        Desk.due("a right one", 1, desk.hyphens("b1b ends 11"));
        Desk.due("place", -1, desk.press.place());
        Desk.due("SET by it", 3, breaks());
    }

    private static void answers() {
        Desk.about("Answers how many different PATTERNS and EXCEPTIONS.");
        desk = new Desk();
        Desk.due("empty", 0, desk.hyphens(""));
        Desk.due("ends", 0, desk.hyphens("ends 99"));
        Desk.due("a PATTERN", 1, desk.hyphens("a"));
        Desk.due("an EXCEPTION", 1, desk.hyphens("=a"));
        Desk.due("both", 2, desk.hyphens("a =a"));
        Desk.due("the same letters", 2, desk.hyphens("ab a1b 1ab2 =ab =a-b"));
        Desk.due("different ones", 6, desk.hyphens("ab .ab ab. .ab. =ab =ba"));
        Desk.due("they do not add up", 1, desk.hyphens("a"));
    }
}
