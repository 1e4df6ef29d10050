/** Terms, 3 FONT: each sentence that names a boundary. */
public final class Terms3FontTest {
    private static Desk desk;

    public static void main(String[] args) {
        bytes();
        numbers();
        toldAgain();
        without();
        limits();
        thousandths();
        Desk.close("Terms3FontTest");
    }

    private static void broken(String text, int place) {
        desk.broken("font", text, place);
    }

    /** Where the second WORD begins: the width of the first one and of a blank. */
    private static long second(String font, String style, String source) {
        desk = new Desk("page{width:1000000;}" + style, source);
        desk.font(font);
        desk.press.set(1);
        return desk.press.spot(0, 1);
    }

    private static void bytes() {
        Desk.about("BYTE: a STRING of one byte.");
        desk = new Desk();
        broken("width\" \"1;width\"~\"1;width\"!\"1;", -1);
        broken("width\"\"1;", 5);
        broken("width\"ab\"1;", 5);
        broken("width a 1;", 6);
        broken("width 1 1;", 6);
        broken("kern\"\"\"b\"1;", 4);
        broken("kern\"a\"\"\"1;", 7);
        broken("kern\"ab\"1;", 4);
        broken("kern\"a\"b 1;", 7);
        broken("join\"a\"\"bc\"1;", 7);
        broken("join\"a\"1;", 7);
        broken("width\"a\"\"b\"1;", 8);
        broken("kern\"a\"\"b\"\"c\"1;", 10);
    }

    private static void numbers() {
        Desk.about("NUMBER: 0 .. 5000 (kern: at most 500), in thousandths of the size.");
        desk = new Desk();
        broken("width\"a\"0;", -1);
        broken("width\"a\"5000;", -1);
        broken("width\"a\"5001;", 8);
        broken("width\"a\"-1;", 8);
        broken("kern\"a\"\"b\"0;", -1);
        broken("kern\"a\"\"b\"-0;", -1);
        broken("kern\"a\"\"b\"500;", -1);
        broken("kern\"a\"\"b\"501;", 10);
        broken("kern\"a\"\"b\"-500;", -1);
        broken("kern\"a\"\"b\"-501;", 11);
        broken("join\"a\"\"b\"0;", -1);
        broken("join\"a\"\"b\"5000;", -1);
        broken("join\"a\"\"b\"5001;", 10);
        broken("join\"a\"\"b\"-1;", 10);
        broken("width\"a\";", 8);
        broken("kern\"a\"\"b\"-;", 11);
        broken("kern\"a\"\"b\";", 10);
        Desk.due("width 0", 5000, second("width\"a\"0;", "", "a x"));
        Desk.due("width 5000", 55000, second("width\"a\"5000;", "", "a x"));
        Desk.due("kern 500", 10000 + 5000 + 5000, second("kern\"a\"\"b\"500;", "", "ab x"));
        Desk.due("kern -500", 10000 - 5000 + 5000, second("kern\"a\"\"b\"-500;", "", "ab x"));
        Desk.due("join 0", 5000, second("join\"a\"\"b\"0;", "", "ab x"));
        Desk.due("join 5000", 55000, second("join\"a\"\"b\"5000;", "", "ab x"));
    }

    private static void toldAgain() {
        Desk.about("Told again for the same BYTES: the last counts.");
        Desk.due("width", 12000, second("width\"a\"5000;width\"b\"1;width\"a\"700;", "", "a x"));
        Desk.due("width 500 again", 10000, second("width\"a\"5000;width\"a\"500;", "", "a x"));
        Desk.due("kern", 10000 + 70 + 5000, second("kern\"a\"\"b\"-500;kern\"a\"\"b\"7;", "", "ab x"));
        Desk.due("kern with another sign", 10000 - 70 + 5000, second("kern\"a\"\"b\"7;kern\"a\"\"b\"-7;", "", "ab x"));
        Desk.due("kern of others", 10000 + 5000 + 5000, second("kern\"a\"\"b\"500;kern\"b\"\"a\"7;", "", "ab x"));
        Desk.due("join", 70 + 5000, second("join\"a\"\"b\"900;join\"a\"\"b\"7;", "", "ab x"));
        Desk.due("join and kern of the same BYTES are two", 70 + 5000, second("join\"a\"\"b\"7;kern\"a\"\"b\"9;", "", "ab x"));
        Desk.due("told", 3, desk.font("width\"a\"1;width\"a\"2;kern\"a\"\"a\"1;kern\"a\"\"a\"2;join\"a\"\"a\"1;join\"a\"\"a\"2;"));
    }

    private static void without() {
        Desk.about("Without: 500, 0, none.");
        Desk.due("no FONT was told", 15000, new Desk("", "ab x").set(1).press.spot(0, 1));
        Desk.due("an empty FONT", 15000, second("", "", "ab x"));
        Desk.due("another byte's width", 15000, second("width\"c\"1;kern\"b\"\"a\"1;join\"b\"\"a\"1;", "", "ab x"));
        desk.font("width\"a\"1;width\" \"1;kern\"a\"\"b\"100;");
        desk.font("");
        desk.press.set(1);
        Desk.due("a FONT is all there is", 15000, desk.press.spot(0, 1));
    }

    private static String pairs(String what, int count) {
        StringBuilder text = new StringBuilder();
        for (int k = 0; k < count; k++) {
            text.append(what).append('"').append((char) ('A' + k / 20)).append("\"\"").append((char) ('a' + k % 20)).append("\"1;");
        }
        return text.toString();
    }

    private static void limits() {
        Desk.about("At most 200 kerns and 60 joins of different BYTES (one too much: at its second BYTE).");
        desk = new Desk();
        String kerns = pairs("kern", 200);
        String joins = pairs("join", 60);
        Desk.due("200 kerns", 200, desk.font(kerns));
        Desk.due("60 joins", 60, desk.font(joins));
        desk = new Desk();
        Desk.due("both", 260, desk.font(kerns + joins));
        desk = new Desk();
        broken(pairs("kern", 201), kerns.length() + 7);
        broken(kerns + "kern\"a\"\"a\"?", kerns.length() + 7);
        desk = new Desk();
        broken(pairs("join", 61), joins.length() + 7);
        broken(kerns + joins + "join\"a\"\"a\"1;", kerns.length() + joins.length() + 7);
        desk = new Desk();
        broken(kerns + "kern\"A\"\"a\"-5;kern\"J\"\"t\"5;", -1);
        broken(joins + "join\"A\"\"a\"5;", -1);
        desk = new Desk();
        StringBuilder widths = new StringBuilder();
        for (char b = ' '; b <= '~'; b++) {
            widths.append(b == '"' ? "" : "width\"" + b + "\"1;");
        }
        Desk.due("widths of all bytes", 94, desk.font(widths.toString() + widths));
    }

    private static void thousandths() {
        Desk.about("in thousandths of the size (6: size * n / 1000, rounded down)");
        Desk.due("rounded down", 1499 + 750, second("width\"a\"999;", "i{size:1501;}", "<i>a </i>x"));
        Desk.due("the greatest size", 500000 + 50000, second("width\"a\"5000;", "i{size:100000;}", "<i>a </i>x"));
        Desk.due("the least size", 1 + 500, second("width\"a\"1;", "i{size:1000;}", "<i>a </i>x"));
        Desk.due("nothing is left", 0 + 999, second("width\"a\"0;", "i{size:1999;}", "<i>a </i>x"));
    }
}
