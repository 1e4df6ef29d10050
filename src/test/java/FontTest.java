/** Promise 4 and 9: font, its widths, kerns and joins, and place. */
public final class FontTest {
    private static Desk desk;

    public static void main(String[] args) {
        answers();
        brokenTexts();
        limits();
        widths();
        theOneBeforeStays();
        Desk.close("FontTest");
    }

    private static void answers() {
        desk = new Desk();
        Desk.due("empty FONT", 0, desk.font(""));
        Desk.due("blanks", 0, desk.font(" \n "));
        Desk.due("one of each", 3, desk.font("width\"a\"600;kern \"a\" \"b\" -50 ; join\"f\"\"i\"\n900;"));
        Desk.due("told again", 3, desk.font("width\"a\"1;width\"a\"2;kern\"a\"\"b\"1;kern\"a\"\"b\"-1;join\"a\"\"b\"7;join\"a\"\"b\"7;"));
        Desk.due("a pair is in order", 2, desk.font("kern\"a\"\"b\"1;kern\"b\"\"a\"1;"));
        Desk.due("ranges", 3, desk.font("width\" \"5000;kern\"a\"\"b\"- 500;join\"~\"\"!\"0;"));
        Desk.due("place", -1, desk.press.place());
    }

    private static void brokenTexts() {
        desk = new Desk();
        desk.broken("font", "width", 5);
        desk.broken("font", "width \"a\" 5 ", 12);
        desk.broken("font", "widths\"a\"5;", 0);
        desk.broken("font", "width\"ab\"5;", 5);
        desk.broken("font", "width\"\"5;", 5);
        desk.broken("font", "width\"a5;", 5);
        desk.broken("font", "width\"a\"5001;", 8);
        desk.broken("font", "width\"a\"-5;", 8);
        desk.broken("font", "width\"a\"00000005;", 8);
        desk.broken("font", "width\"a\"0000005;", -1);
        desk.broken("font", "width\"a\"5:", 9);
        desk.broken("font", "width\"a\"5;;", 10);
        desk.broken("font", "kern\"a\"5;", 7);
        desk.broken("font", "kern\"a\"\"b\"501;", 10);
        desk.broken("font", "kern\"a\"\"b\"-501;", 11);
        desk.broken("font", "kern\"a\"\"b\"--1;", 11);
        desk.broken("font", "join\"a\"\"b\"-1;", 10);
        desk.broken("font", "join\"a\"\"\t\"1;", 7);
        desk.broken("font", "join\"a\"\"b\"5000;A", 15);
        desk.broken("font", "abcdefghijklm", 0);
        desk.broken("font", "5", 0);
    }

    private static void limits() {
        StringBuilder text = new StringBuilder();
        for (int k = 0; k < 200; k++) {
            text.append("kern\"").append((char) ('A' + k / 20)).append("\"\"").append((char) ('a' + k % 20)).append("\"1;");
        }
        desk = new Desk();
        Desk.due("200 kerns", 200, desk.font(text.toString()));
        Desk.due("200 kerns, one twice", 200, desk.font(text + "kern\"A\"\"a\"2;"));
        desk.broken("font", text + "kern\"Z\"\"a\"999;", text.length() + 7);
        StringBuilder joins = new StringBuilder();
        for (int k = 0; k < 60; k++) {
            joins.append("join\"").append((char) ('A' + k / 10)).append("\"\"").append((char) ('a' + k % 10)).append("\"1;");
        }
        Desk.due("200 kerns and 60 joins", 260, desk.font(text.toString() + joins));
        desk.broken("font", joins + "join\"Z\"\"a\"1;", joins.length() + 7);
    }

    /** A line that is not the last but one of a PARAGRAPH tells widths by where its WORDS are. */
    private static long secondWord(String source) {
        desk.source(source);
        desk.press.set(1);
        return desk.press.spot(0, 1);
    }

    private static void widths() {
        desk = new Desk();
        Desk.due("500 without", 5000 + 5000, secondWord("a b"));
        desk.font("width\"a\"333;width\" \"100;");
        Desk.due("width, rounded down", 3330 + 1000, secondWord("a b"));
        desk.style("s{size:1999;}");
        Desk.due("size by width, rounded down", 665 + 1000, secondWord("<s>a</s> b"));
        Desk.due("the blank's size is that of the first", 665 + 199, secondWord("<s>a </s> b"));
        desk.font("kern\"a\"\"b\"77;kern\"b\"\"a\"-77;join\"f\"\"i\"600;kern\"i\"\"a\"10;kern\"a\"\"f\"20;");
        Desk.due("kern", 10770 + 5000, secondWord("ab x"));
        Desk.due("kern below 0", 10000 - 770 + 5000, secondWord("ba x"));
        Desk.due("kern below 0 is rounded to 0", 999 + 999 - 153 + 999, secondWord("<s>ba </s>x"));
        Desk.due("no kern between sizes", 5000 + 999 + 5000, secondWord("a<s>b</s> x"));
        Desk.due("join", 6000 + 5000, secondWord("fi x"));
        Desk.due("join from the left", 6000 + 5000 + 5000, secondWord("fii x"));
        Desk.due("kerns at a join", 5000 + 200 + 6000 + 100 + 5000 + 5000, secondWord("afia x"));
        Desk.due("no join between sizes", 5000 + 999 + 5000, secondWord("f<s>i</s> x"));
        desk.font("width\"a\"0;width\"b\"100;kern\"b\"\"a\"-500;");
        Desk.due("a PART is not below 0", 5000, secondWord("ba x"));
        Desk.due("a PART is by itself", 500 + 1000 + 5000, secondWord("-b x") - 4500);
        desk.font("kern\"-\"\"b\"500;");
        Desk.due("no kern over the end of a PART", 10000 + 5000, secondWord("-b x"));
    }

    private static void theOneBeforeStays() {
        desk = new Desk();
        desk.font("width\"a\"900;");
        desk.broken("font", "width\"a\"100;?", 12);
        Desk.due("the FONT before stays", 14000, secondWord("a b"));
        desk.font("");
        Desk.due("place after a FONT that is fine", -1, desk.press.place());
        desk.press.set(1);
        Desk.due("nothing of the FONT before", 10000, desk.press.spot(0, 1));
    }
}
