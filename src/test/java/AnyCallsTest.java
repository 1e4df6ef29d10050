import java.util.Arrays;
import java.util.List;

/**
 * Any calls in any state, by numbers that are always the same: nothing but what the document says is
 * thrown, and a call that throws changes nothing that count tells.
 */
public final class AnyCallsTest {
    private static final String[] STYLES = {
        "page{width:10000;height:12000;columns:2;lines:all;}", "page{height:60000;rule:0;gap:7;lines:page;}", "page{width:1000000;}",
        "b{show:block;first:1;last:1;count:yes;}", "n{show:note;lead:5000;}", "f{show:float;height:9000;}", "t{show:table;left:3000;}",
        "r{show:row;}", "c{show:cell;}", "k{show:contents;}", "x{show:index;}", "e{show:ref;}", "m{show:term;}", "h{show:none;}",
        "*{tolerance:10000;hyphens:yes;}", "i{size:50%;depth:2;head:yes;label:\"#.\";step:p;form:roman;}", "b+b{above:9000;keep:yes;}",
        "b>i:first,n/i[id]{align:right;reset:p;}", "*:empty{indent:500000;}", "b:nth(3){lead:200000;}", "i:not(b){size:100000;}"};
    private static final String[] PIECES = {
        "<b>", "<b id=\"p\">", "</b>", "<i id=\"q\">", "</i>", "<n>", "<n of=\"p\">", "</n>", "<f/>", "<t>", "</t>", "<r>", "</r>", "<c>", "</c>",
        "<k/>", "<x/>", "<e to=\"p\" as=\"page\"/>", "<e to=\"q\" as=\"line\"/>", "<e to=\"q\" as=\"title\"/>", "<m>", "</m>", "<m at=\"zz\"/>",
        "<h>", "</h>", "<!y \"one two\">", "&y;", "&lt;", "aa bb ", "a-b ", "abab ", "<!-- -->", "\n", "abcdefghij klm "};
    private static final String[] FONTS = {"width\"a\"0;", "width\" \"3000;", "kern\"a\"\"b\"-500;", "join\"a\"\"b\"5000;", "width\"-\"5000;", "?"};
    private static final String[] HYPHENS = {"ends 11 ", "a1b ", "=ab-ab ", ".b2a ", "b1. ", "ends 9 ", "1a "};
    private static final int[] NUMBERS = {Integer.MIN_VALUE, -1, 0, 0, 1, 1, 2, 3, 4, 5, 6, 7, 9, 10, 11, 13, 20, 41, 42, 1000, Integer.MAX_VALUE};

    private static final int[] ROUNDS = {0, 1, 1, 2, 3, 9, 9, 10};

    private static int seed = 20261116;
    private static Desk desk;

    public static void main(String[] args) {
        Desk.about("A call throws exactly what and where the document says");
        for (int n = 0; n < 1500; n++) {
            desk = new Desk();
            desk.style(join(STYLES, 24));
            desk.source(source());
            for (int call = 0; call < 8; call++) {
                anyCall(n * 1000 + call);
            }
            allOfIt(n);
        }
        Desk.close("AnyCallsTest");
    }

    /** What is SET at last fits together. */
    private static void allOfIt(int n) {
        ScholarsPress x = desk.press;
        try {
            x.set(1 + any(9));
        } catch (ArithmeticException e) {
            return;
        }
        int lines = 0;
        for (int k = 0; k < x.count(5) && k < 40; k++) {
            lines += x.line(k, 2) < 0 ? 0 : 1;
            Desk.due("RATIO within its range, number " + n, 1, x.line(k, 4) >= -1000 && x.line(k, 4) <= 100000 ? 1 : 0);
            Desk.due("not ahead of the line before, number " + n, 1, k == 0 || x.line(k, 0) >= x.line(k - 1, 0) ? 1 : 0);
        }
        for (int p = 0; p < x.count(6) && p < 20; p++) {
            StringBuilder row = new StringBuilder();
            int told = 0;
            for (int k = 0; k < x.count(5) && k < 40; k++) {
                if (x.line(k, 2) == p) {
                    told++;
                    row.append(told < x.paragraph(p, 1) ? x.line(k, 5) + " " : "");
                }
            }
            if (told == x.paragraph(p, 1)) {
                Desk.due("judge of the row that was taken, number " + n, x.paragraph(p, 0), desk.judge(p, row.toString()));
            }
        }
        int printed = 0;
        for (int page = 1; page <= x.count(3); page++) {
            printed += desk.page(page).split("\n").length - 1;
        }
        Desk.due("all lines and floats are printed, number " + n, 1, printed >= lines + x.count(8) + (x.count(5) == 0 ? -40 : 0) ? 1 : 0);
        for (int k = 0; k < x.count(7); k++) {
            Desk.due("a NOTE has its first line in the column that calls it, number " + n, x.line(x.note(k, 1), 0), x.note(k, 3));
        }
        for (int k = 0; k < x.count(8) && x.count(5) > 0; k++) {
            Desk.due("a float does not stand ahead of its line, number " + n, 1, x.note(k, 12) >= x.line(x.note(k, 11), 0) ? 1 : 0);
        }
    }

    private static int any(int below) {
        seed = seed * 1103515245 + 12345;
        return (seed >>> 8) % below;
    }

    private static int number() {
        return NUMBERS[any(NUMBERS.length)];
    }

    private static String join(String[] parts, int most) {
        StringBuilder text = new StringBuilder();
        for (int n = any(most); n > 0; n--) {
            text.append(parts[any(parts.length)]);
        }
        return text.toString();
    }

    /** Pieces whose ends fit, so that most SOURCES are not BROKEN. */
    private static String source() {
        StringBuilder text = new StringBuilder("<!y \"one two\">");
        StringBuilder open = new StringBuilder();
        for (int n = any(60); n > 0; n--) {
            String piece = PIECES[any(PIECES.length)];
            boolean begins = piece.charAt(0) == '<' && "bintrcmh".indexOf(piece.charAt(1)) >= 0 && !piece.endsWith("/>");
            if (piece.startsWith("</")) {
                if (open.length() > 0) {
                    text.append("</").append(open.charAt(open.length() - 1)).append('>');
                    open.setLength(open.length() - 1);
                }
            } else if (!piece.startsWith("<!y") && (!begins || open.length() < 19)) {
                text.append(piece);
                open.append(begins ? piece.substring(1, 2) : "");
            }
        }
        while (open.length() > 0) {
            text.append("</").append(open.charAt(open.length() - 1)).append('>');
            open.setLength(open.length() - 1);
        }
        return text.toString();
    }

    /** One byte in some texts is another one. */
    private static String blurred(String text) {
        if (text.isEmpty() || any(6) > 0) {
            return text;
        }
        int at = any(text.length());
        return text.substring(0, at) + (char) any(256) + text.substring(at + any(2));
    }

    private static void anyCall(int which) {
        int a = number();
        int b = number();
        String id = join(new String[] {"p", "q", "z", "zz"}, 3);
        String row = join(new String[] {"1 ", "2 ", "3 ", "x", "12 "}, 4);
        switch (any(24)) {
            case 0: told(which, "font", () -> desk.font(blurred(join(FONTS, 5))), Desk.BROKEN); break;
            case 1: told(which, "hyphens", () -> desk.hyphens(blurred(join(HYPHENS, 5))), Desk.BROKEN); break;
            case 2: case 3: case 4: told(which, "style", () -> desk.style(blurred(join(STYLES, 20))), Desk.BROKEN); break;
            case 5: case 6: case 7: told(which, "source", () -> desk.source(blurred(source())), Desk.BROKEN); break;
            case 8: told(which, "change", () -> desk.change(a, b, "x"), Desk.ARGUMENT, Desk.STATE, Desk.INDEX, Desk.BROKEN); break;
            case 9: case 10: case 11: told(which, "set", () -> desk.press.set(ROUNDS[any(ROUNDS.length)]), Desk.ARGUMENT, Desk.STATE, Desk.INDEX, Desk.ARITHMETIC); break;
            case 12: told(which, "element", () -> desk.press.element(a, b), Desk.ARGUMENT, Desk.STATE); break;
            case 13: told(which, "count", () -> desk.press.count(a), Desk.ARGUMENT); break;
            case 14: told(which, "line", () -> desk.press.line(a, b), Desk.ARGUMENT, Desk.STATE, Desk.INDEX); break;
            case 15: told(which, "spot", () -> desk.press.spot(a, b), Desk.STATE, Desk.INDEX); break;
            case 16: told(which, "paragraph", () -> desk.press.paragraph(a, b), Desk.ARGUMENT, Desk.STATE, Desk.INDEX); break;
            case 17: told(which, "judge", () -> desk.judge(a, row), Desk.STATE, Desk.INDEX, Desk.BROKEN); break;
            case 18: told(which, "where", () -> desk.where(id, a), Desk.ARGUMENT, Desk.STATE, Desk.NONE); break;
            case 19: told(which, "note", () -> desk.press.note(a, b), Desk.ARGUMENT, Desk.STATE, Desk.INDEX); break;
            case 20: told(which, "wavering", () -> desk.press.wavering(a), Desk.STATE, Desk.INDEX); break;
            case 21: told(which, "print", () -> desk.press.print(a), Desk.STATE, Desk.INDEX); break;
            case 22: told(which, "word", () -> desk.press.word(a), Desk.INDEX); break;
            default: told(which, "end", () -> desk.press.end(a), Desk.ARGUMENT); break;
        }
    }

    private static String counts() {
        StringBuilder text = new StringBuilder();
        for (int what : new int[] {0, 2, 4, 6, 10, 11}) {
            text.append(desk.press.count(what)).append(' ');
        }
        return text.toString();
    }

    private static void told(int which, String call, Desk.Call body, Class<?>... thrown) {
        List<Class<?>> allowed = Arrays.asList(thrown);
        String before = counts();
        String got = "";
        try {
            body.run();
        } catch (RuntimeException e) {
            got = allowed.contains(e.getClass()) ? "" : e.toString();
            Desk.due("counts behind a " + call + " that threw, number " + which, before, counts());
        }
        Desk.due(call + ", number " + which + ", throws", "", got);
    }
}
