/** Promise 4: font. */
public final class Promise04FontTest {
    private static Desk desk;

    public static void main(String[] args) {
        fromNowOn();
        theOneBeforeStays();
        answers();
        Desk.close("Promise04FontTest");
    }

    private static long second() {
        desk.press.set(1);
        return desk.press.spot(0, 1);
    }

    private static void fromNowOn() {
        Desk.about("The TAPE is the FONT from now on.");
        desk = new Desk("", "a b");
        Desk.due("none yet", 10000, second());
        desk.font("width\"a\"700;");
        Desk.due("what is SET stays", 10000, desk.press.spot(0, 1));
        Desk.due("SET anew", 12000, second());
        desk.font("width\"b\"700;");
        Desk.due("nothing of the one before", 10000, second());
        desk.font("");
        Desk.due("an empty one", 10000, second());
        desk.source("aa b");
        Desk.due("another SOURCE", 15000, second());
    }

    private static void theOneBeforeStays() {
        Desk.about("BROKEN: UnsupportedOperationException, PLACE is told, the one before stays");
        desk = new Desk("", "a b");
        desk.broken("font", "width\"a\"900;width", 17);
        Desk.due("the empty one stays", 10000, second());
        desk.font("width\"a\"700;");
        desk.broken("font", "width\"a\"900;width\"b\"5001;", 20);
        Desk.due("it stays", 12000, second());
        desk.broken("font", "?", 0);
        desk.broken("font", " ?", 1);
        Desk.due("it stays", 12000, second());
        Desk.due("a right one", 1, desk.font("width\"a\"800;"));
        Desk.due("place", -1, desk.press.place());
        Desk.due("SET by it", 13000, second());
    }

    private static void answers() {
        Desk.about("Answers how many widths, kerns, joins are told in it (for different BYTES).");
        desk = new Desk();
        Desk.due("empty", 0, desk.font(""));
        Desk.due("blanks", 0, desk.font(" \n"));
        Desk.due("a width", 1, desk.font("width\"a\"500;"));
        Desk.due("a kern of 0", 1, desk.font("kern\"a\"\"b\"0;"));
        Desk.due("a join", 1, desk.font("join\"a\"\"b\"0;"));
        Desk.due("all three", 3, desk.font("width\"a\"1;kern\"a\"\"a\"1;join\"a\"\"a\"1;"));
        Desk.due("twice each", 3, desk.font("width\"a\"1;kern\"a\"\"a\"1;join\"a\"\"a\"1;".repeat(2)));
        Desk.due("different BYTES", 6, desk.font("width\"a\"1;width\"b\"1;kern\"a\"\"b\"1;kern\"b\"\"a\"1;join\"a\"\"b\"1;join\"b\"\"a\"1;"));
        Desk.due("they do not add up", 1, desk.font("width\"a\"500;"));
    }
}
