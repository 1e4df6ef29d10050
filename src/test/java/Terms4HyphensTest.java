/** Terms, 4 HYPHENS: each sentence that names a boundary. */
public final class Terms4HyphensTest {
    private static Desk desk;

    public static void main(String[] args) {
        words();
        ends();
        endsAtTheirEdges();
        exceptions();
        patterns();
        placesOfDigits();
        limits();
        theLastCounts();
        placesOfExceptions();
        placesOfPatterns();
        Desk.close("Terms4HyphensTest");
    }

    private static void broken(String text, int place) {
        desk.broken("hyphens", text, place);
    }

    /**
     * A WORD with its PLACES. The first line has just room for so many letters: if there is a PLACE
     * behind them, it is as wide as it may be.
     */
    private static void places(String hyphens, String word, String due) {
        desk = new Desk("", "<b>" + word + "</b>");
        desk.font("width\"-\"0;" + wide(word));
        desk.hyphens(hyphens);
        StringBuilder got = new StringBuilder(word.substring(0, 1));
        for (int n = 1; n < word.length(); n++) {
            desk.style("page{width:500000;}b{show:block;hyphens:yes;size:1000;indent:" + (500000 - 1000 * n) + ";tolerance:10000;}");
            desk.press.set(1);
            boolean place = desk.press.count(5) == 2 && desk.press.line(0, 4) == 0;
            got.append(place ? "-" : "").append(word.charAt(n));
        }
        Desk.due("PLACES of " + word + " by " + hyphens, due, got.toString());
    }

    /** Letters that are 1000 wide in a size of 1000. */
    private static String wide(String word) {
        StringBuilder text = new StringBuilder();
        for (char letter : word.toCharArray()) {
            text.append("width\"").append(letter).append("\"1000;");
        }
        return text.toString();
    }

    private static int placeCount(String hyphens, String word) {
        desk = new Desk("b{show:block;hyphens:yes;}", "<b>" + word + "</b>");
        desk.hyphens(hyphens);
        desk.press.set(1);
        return (int) desk.press.paragraph(0, 2) - 1;
    }

    private static void words() {
        Desk.about("WORDS of bytes 33 .. 126, with blanks between; a WORD of another byte, or that is none of these, is BROKEN at its first byte");
        desk = new Desk();
        broken("", -1);
        broken(" \n ", -1);
        broken("a1b\n\n c1d ", -1);
        for (char other : new char[] {0, 9, 11, 13, 31, 127, 128, 160, 255}) {
            broken("ab cd" + other + " ef", 3);
            broken(other + "ab", 0);
        }
        for (char other : new char[] {'!', '~', '+', 'A', '"', '-', '='}) {
            broken("ab " + "c" + other + "d", 3);
        }
        broken("ab ? ends", 3);
        broken("ab -", 3);
        broken("ab Ends 11", 3);
    }

    private static void ends() {
        Desk.about("ends, then two digits 1 to 9 in a WORD of their own (the least letters ahead and behind; 2 and 3 without; told again: the last counts)");
        desk = new Desk();
        broken("ends 11", -1);
        broken("ends\n\n99\n", -1);
        broken("ends 01", 5);
        broken("ends 10", 5);
        broken("ends 1", 5);
        broken("ends 111", 5);
        broken("ends 1 1", 5);
        broken("ends 1a", 5);
        broken("ends a1b", 5);
        broken("ends =a", 5);
        broken("ends ends 11", 5);
        broken("ends", 4);
        broken("ends ", 5);
        broken("a1b ends", 8);
        broken("ends11", 0);
        broken("ends: 11", 0);
        broken("ends 11 22", 8);
        broken("ends 11 ends 22", -1);
        Desk.due("ends is no PATTERN", 0, desk.hyphens("ends 11"));
    }

    private static void endsAtTheirEdges() {
        Desk.about("In both only those with as many letters ahead and behind as ends says.");
        places("a1a", "aaaaaa", "aa-a-aaa");
        places("a1a", "aaaaa", "aa-aaa");
        places("a1a", "aaaa", "aaaa");
        places("ends 11 a1a", "aaa", "a-a-a");
        places("ends 11 a1a", "a", "a");
        places("ends 91 a1a", "aaaaaaaaaa", "aaaaaaaaa-a");
        places("ends 91 a1a", "aaaaaaaaa", "aaaaaaaaa");
        places("ends 19 a1a", "aaaaaaaaaa", "a-aaaaaaaaa");
        places("ends 99 a1a", "aaaaaaaaaaaaaaaaaa", "aaaaaaaaa-aaaaaaaaa");
        places("ends 99 a1a", "aaaaaaaaaaaaaaaaa", "aaaaaaaaaaaaaaaaa");
        places("ends 11 ends 22 a1a", "aaaa", "aa-aa");
        places("ends 22 a1a ends 11", "aaaa", "a-a-a-a");
        places("=a-a-a-a-a-a", "aaaaaa", "aa-a-aaa");
        places("ends 42 =a-a-a-a-a-a", "aaaaaa", "aaaa-aa");
        Desk.about("(2 and 3 without)");
        desk = new Desk("b{show:block;hyphens:yes;}", "<b>aaaaa</b>");
        for (int again = 0; again < 3; again++) {
            desk.hyphens("ends 11 a1a");
            desk.press.set(1);
            Desk.due("BREAKS by ends 11", 5, desk.press.paragraph(0, 2));
            desk.hyphens("a1a");
            desk.hyphens("a1a");
            desk.press.set(1);
            Desk.due("BREAKS without ends", 2, desk.press.paragraph(0, 2));
        }
    }

    private static void exceptions() {
        Desk.about("= and 1 to 30 letters a .. z with - between some (an EXCEPTION; no two - together, none at an end)");
        desk = new Desk();
        broken("=a", -1);
        broken("=" + "z".repeat(30), -1);
        broken("=" + "z-".repeat(29) + "z", -1);
        broken("ab =", 3);
        broken("ab =-", 3);
        broken("ab =a-", 3);
        broken("ab =-a", 3);
        broken("ab =a--a", 3);
        broken("ab =" + "z".repeat(31), 3);
        broken("ab =" + "z-".repeat(30) + "z", 3);
        broken("ab =aB", 3);
        broken("ab =a1", 3);
        broken("ab =.a", 3);
        broken("ab ==a", 3);
        broken("ab = a", 3);
        Desk.due("an EXCEPTION without -", 1, desk.hyphens("=abc"));
    }

    private static void patterns() {
        Desk.about("a PATTERN: 1 to 12 letters a .. z, a . ahead or behind or both, and digits 0 .. 9 or none");
        desk = new Desk();
        broken("a", -1);
        broken("abcdefghijkl", -1);
        broken(".abcdefghijkl.", -1);
        broken(".0a1b2c3d4e5f6g7h8i9j0k1l2.", -1);
        broken("0a9", -1);
        broken("ab abcdefghijklm", 3);
        broken("ab .abcdefghijklm.", 3);
        broken("ab .", 3);
        broken("ab ..", 3);
        broken("ab .1.", 3);
        broken("ab 1", 3);
        broken("ab ..a", 3);
        broken("ab a..", 3);
        broken("ab a.a", 3);
        broken("ab A", 3);
        Desk.due("without digits", 1, desk.hyphens("ab"));
    }

    private static void placesOfDigits() {
        Desk.about("(one at most in a place: between two letters, ahead of the first, behind the last, within the .)");
        desk = new Desk();
        broken("1a", -1);
        broken("a1", -1);
        broken(".1a", -1);
        broken("a1.", -1);
        broken("ab 12a", 3);
        broken("ab a12", 3);
        broken("ab a12b", 3);
        broken("ab 1.a", 3);
        broken("ab a.1", 3);
        broken("ab 1.1a", 3);
        broken("ab .11a", 3);
        broken("ab a11.", 3);
    }

    private static String many(String mark, int count, String between) {
        StringBuilder text = new StringBuilder();
        for (int k = 0; k < count; k++) {
            text.append(mark).append((char) ('a' + k / 20)).append(between).append((char) ('a' + k % 20)).append(' ');
        }
        return text.toString();
    }

    private static void limits() {
        Desk.about("At most 300 PATTERNS of different letters and . and 60 EXCEPTIONS of different letters");
        desk = new Desk();
        String patterns = many("", 300, "1");
        String exceptions = many("=", 60, "-");
        Desk.due("300 PATTERNS and 60 EXCEPTIONS", 360, desk.hyphens(patterns + exceptions));
        desk = new Desk();
        broken(many("", 301, "1"), patterns.length());
        broken(patterns + ".ab", patterns.length());
        desk = new Desk();
        broken(patterns + "ab.", patterns.length());
        broken(many("=", 61, "-"), exceptions.length());
        Desk.due("of the same letters", 300, desk.hyphens(patterns + "a2b 3a4b5 ab"));
        Desk.due("of the same letters", 60, desk.hyphens(exceptions + "=ab =a-b"));
        Desk.due("a . makes them different", 4, desk.hyphens("ab .ab ab. .ab."));
        Desk.due("an EXCEPTION and a PATTERN of the same letters", 2, desk.hyphens("=ab ab"));
    }

    private static void theLastCounts() {
        Desk.about("of the same the last counts.");
        places("ends 11 a1b a2b", "ab", "ab");
        places("ends 11 a2b a1b", "ab", "a-b");
        places("ends 11 1a1b1 ab", "ab", "ab");
        places("ends 11 a1bb ab1b", "abb", "ab-b");
        places("ends 11 a1bb .ab1b", "abb", "a-b-b");
        places("ends 11 =a-bc =ab-c", "abc", "ab-c");
        places("ends 11 =a-bc =abc a1b", "abc", "abc");
        places("ends 11 a1b a1b cd", "cdab", "cda-b");
        places("ends 11 1a1b1 1a1b1 cd", "cdcd", "cdcd");
    }

    private static void placesOfExceptions() {
        Desk.about("PLACES of a row of letters (A .. Z as a .. z): of an EXCEPTION those of its -");
        places("ends 11 =a-bc b1c", "abc", "a-bc");
        places("ends 11 =a-bc b1c", "ABC", "A-BC");
        places("ends 11 =a-bc b1c", "abcd", "ab-cd");
        places("ends 11 =abc b1c", "abc", "abc");
        places("ends 11 =a-bc", "xabc", "xabc");
        places("ends 11 =" + "a".repeat(29) + "-a", "a".repeat(30), "a".repeat(29) + "-a");
        Desk.due("rows of letters, each longest one", 3, placeCount("ends 11 =a-b", "ab1ab'ab"));
        Desk.due("a row of one letter: a GLUE alone", 1, placeCount("ends 11 a1 1a", "a1a a"));
    }

    private static void placesOfPatterns() {
        Desk.about("for each PATTERN wherever its letters and . stand: its digits come to the places there; of each place the greatest one counts; odd: a PLACE.");
        places("ends 11 a1b", "abab", "a-ba-b");
        places("ends 11 a1b a4b.", "abab", "a-bab");
        places("ends 11 a4b .a5b", "abab", "a-bab");
        places("ends 11 a9b b8", "abab", "a-ba-b");
        places("ends 11 a8b 9b", "abab", "a-ba-b");
        places("ends 11 a9b", "ab", "a-b");
        places("ends 11 a0b", "ab", "ab");
        places("ends 11 a2b 3b", "ab", "a-b");
        places("ends 11 a2b 1b", "ab", "ab");
        places("ends 11 .ab1a.", "aba", "ab-a");
        places("ends 11 .ab1a.", "abab", "abab");
        places("ends 11 1a b1", "ab", "ab");
        places("ends 11 .1a b1.", "ab", "ab");
        places("ends 11 a1a", "aaaa", "a-a-a-a");
        places("ends 11 abcdefghijk1l", "abcdefghijkl", "abcdefghijk-l");
        places("ends 11 a1b", "AbaB", "A-ba-B");
        Desk.due("a row of 40 letters", 39, placeCount("ends 11 a1a", "a".repeat(40)));
        places("ends 11 a1z z1a", "AZAZ", "A-Z-A-Z");
        Desk.due("a . at the end of each row, and two GLUES", 5, placeCount("ends 11 a1b.", "ab x,ab ab"));
        Desk.due("a . at the beginning of each row, and two GLUES", 5, placeCount("ends 11 .a1b", "ab x,ab aba"));
        Desk.due("no PLACE behind the last letter", 1, placeCount("ends 11 b1", "ab, ab!"));
        Desk.due("no PLACE ahead of the first letter", 1, placeCount("ends 11 1a", ",ab !ab"));
    }
}
