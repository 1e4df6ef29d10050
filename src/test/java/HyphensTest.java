/** Promise 5: hyphens, and the PLACES that they give. */
public final class HyphensTest {
    private static Desk desk;

    public static void main(String[] args) {
        answers();
        brokenTexts();
        limits();
        places();
        Desk.close("HyphensTest");
    }

    private static void answers() {
        desk = new Desk();
        Desk.due("empty", 0, desk.hyphens(""));
        Desk.due("patterns and exceptions", 4, desk.hyphens("a1b .a1b a1b. =ab-c"));
        Desk.due("the same letters", 2, desk.hyphens("a1b\na2b 1a3b4 =abc =a-bc ends 11 ends 99"));
        Desk.due("longest", 2, desk.hyphens(".1a1b1c1d1e1f1g1h1i1j1k1l1. =" + "a".repeat(30)));
        Desk.due("an EXCEPTION with many -", 1, desk.hyphens("=" + "a-".repeat(29) + "a"));
    }

    private static void brokenTexts() {
        desk = new Desk();
        desk.broken("hyphens", "ends", 4);
        desk.broken("hyphens", "ends \n", 6);
        desk.broken("hyphens", "ends 1", 5);
        desk.broken("hyphens", "ends 10", 5);
        desk.broken("hyphens", "ends 01", 5);
        desk.broken("hyphens", "ends 123", 5);
        desk.broken("hyphens", "ends ends", 5);
        desk.broken("hyphens", " ends 12", -1);
        desk.broken("hyphens", "ab 12", 3);
        desk.broken("hyphens", "ab a11b", 3);
        desk.broken("hyphens", "ab 1.a", 3);
        desk.broken("hyphens", "ab a.1", 3);
        desk.broken("hyphens", "ab a.b", 3);
        desk.broken("hyphens", "ab ..a", 3);
        desk.broken("hyphens", "ab a..", 3);
        desk.broken("hyphens", "ab .", 3);
        desk.broken("hyphens", "ab .1.", 3);
        desk.broken("hyphens", "ab aB", 3);
        desk.broken("hyphens", "abcdefghijklm", 0);
        desk.broken("hyphens", ".abcdefghijkl.", -1);
        desk.broken("hyphens", "=", 0);
        desk.broken("hyphens", "=-a", 0);
        desk.broken("hyphens", "=a-", 0);
        desk.broken("hyphens", "=a--b", 0);
        desk.broken("hyphens", "=a1", 0);
        desk.broken("hyphens", "a =" + "a".repeat(31), 2);
        desk.broken("hyphens", "ab a\u00e9", 3);
        desk.broken("hyphens", "ab a\tb", 3);
    }

    private static void limits() {
        StringBuilder text = new StringBuilder();
        for (int k = 0; k < 300; k++) {
            text.append((char) ('a' + k / 25)).append('1').append((char) ('a' + k % 25)).append(' ');
        }
        desk = new Desk();
        Desk.due("300 patterns", 300, desk.hyphens(text.toString()));
        Desk.due("300 patterns, one again", 300, desk.hyphens(text + "a3a"));
        desk.broken("hyphens", text + "z1z", text.length());
        StringBuilder exceptions = new StringBuilder();
        for (int k = 0; k < 60; k++) {
            exceptions.append('=').append((char) ('a' + k / 10)).append('-').append((char) ('a' + k % 10)).append(' ');
        }
        Desk.due("300 and 60", 360, desk.hyphens(text.toString() + exceptions));
        Desk.due("60, one again", 60, desk.hyphens(exceptions + "=aa"));
        desk.broken("hyphens", exceptions + "=zz", exceptions.length());
    }

    /** How many PLACES a WORD has, DASHES with them: its BREAKS but the END. */
    private static void places(String hyphens, String word, int due) {
        desk = new Desk();
        desk.style("b{show:block;hyphens:yes;}");
        desk.hyphens(hyphens);
        desk.source("<b>" + word + "</b>");
        desk.press.set(1);
        Desk.due("PLACES of " + word + " by " + hyphens, due, desk.press.paragraph(0, 2) - 1);
    }

    private static void places() {
        places("", "aaabbb", 0);
        places("a1b", "aaabbb", 1);
        places("a1b", "aabbb", 1);
        places("a1b", "abbb", 0);
        places("a1b", "aabb", 0);
        places("ends 11 a1b", "ab", 1);
        places("ends 11 a1b", "aB", 1);
        places("ends 11 a1b a2b", "ab", 0);
        places("ends 11 1b .a2b", "abab", 1);
        places("ends 11 1b ab1a", "abab", 3);
        places("ends 11 1b ab2.", "abab", 2);
        places("ends 11 1b a2b.", "abab", 1);
        places("ends 11 =ab-ab 1b", "ABab", 1);
        places("ends 11 =abab 1b", "abab", 0);
        places("=a-bab-ab", "ababab", 0);
        places("=aba-bab", "ababab", 1);
        places("ends 11 a1b", "ab-ab", 3);
        places("ends 11 a1b", "ab1ab", 2);
        places("", "-a--b-", 3);
        places("ends 11 a1", "ab", 1);
        places("ends 11 a1", "ba", 0);
        places("ends 11 1a", "ba", 1);
        places("ends 11 9z", "yz", 1);
        places("ends 11 .1b a1b.", "ab", 1);
        places("ends 11 b1", "ab", 0);
        places("ends 24 a1b", "c aabbb", 1);
        places("ends 23 a1b", "cc aabbb", 2);
        places("ends 11 =a-ab =b-b", "c aab bb bb", 6);
        printed();
    }

    private static void printed() {
        desk = new Desk();
        desk.style("page{width:20000;height:100000;}*{hyphens:yes;tolerance:10000;}b{show:block;}");
        desk.hyphens("ends 22 a1b");
        desk.source("<b>aaabbbb aabb c-cc</b>");
        desk.press.set(1);
        Desk.due("broken at HYPHENS", "1 \n0 0 aaa-\n12000 0 bbbb\n24000 0 aabb\n36000 0 c-cc\n", desk.page(1));
        desk.style("page{width:20000;height:100000;}*{hyphens:no;tolerance:10000;}b{show:block;}");
        desk.press.set(1);
        Desk.due("hyphens no", "1 \n0 0 aaabbbb\n12000 0 aabb\n24000 0 c-cc\n", desk.page(1));
        desk.style("page{width:20000;height:100000;}b{show:block;hyphens:yes;tolerance:10000;}i{hyphens:no;}");
        desk.source("<b><i>aaab</i>bbb aabb</b>");
        desk.press.set(1);
        Desk.due("hyphens of the BLOCK", "1 \n0 0 aaa-\n12000 0 bbbb\n24000 0 aabb\n", desk.page(1));
        desk.hyphens("ends 22 a1b");
        desk.broken("hyphens", "ends 22 b1b ends", 16);
        desk.press.set(1);
        Desk.due("the HYPHENS before stay", "1 \n0 0 aaa-\n12000 0 bbbb\n24000 0 aabb\n", desk.page(1));
    }
}
