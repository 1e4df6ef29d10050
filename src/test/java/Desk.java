import java.util.NoSuchElementException;

/** A press with texts instead of ints at its TAPE, and a count of the answers that were not due. */
final class Desk {
    /** A NAME for each way to show; i is told nothing. */
    static final String SHOWS = "b{show:block;}n{show:note;}f{show:float;}t{show:table;}r{show:row;}c{show:cell;}"
            + "k{show:contents;}x{show:index;}e{show:ref;}m{show:term;}h{show:none;}";

    private static int asked = 0;
    private static int wrong = 0;
    private static String sentence = "";

    /** A call that may throw. */
    interface Call {
        long run();
    }

    /** A call with a number that may be out of range. */
    interface NumberCall {
        long run(int number);
    }

    final ScholarsPress press = new ScholarsPress();

    /** The document's sentence that the next answers are due by. */
    static void about(String words) {
        sentence = words;
    }

    private static void tellWrong(String what) {
        wrong++;
        System.out.println((sentence.isEmpty() ? "" : "[" + sentence + "] ") + what);
    }

    static void due(String call, long want, long got) {
        asked++;
        if (got != want) {
            tellWrong(call + " answered " + got + ", due is " + want);
        }
    }

    static void due(String call, String want, String got) {
        asked++;
        if (!got.equals(want)) {
            tellWrong(call + " answered\n" + got + "\ndue is\n" + want);
        }
    }

    static void dueThrow(String call, Class<?> want, Call body) {
        asked++;
        String got;
        try {
            got = "" + body.run();
        } catch (RuntimeException e) {
            if (e.getClass() == want) {
                return;
            }
            got = e.toString();
        }
        tellWrong(call + " answered " + got + ", due is " + want.getSimpleName());
    }

    /** The call must throw below low and above high, and nowhere else. */
    static void dueRange(String call, int low, int high, Class<?> beyond, NumberCall body) {
        for (int number : new int[] {Integer.MIN_VALUE, low - 1, high + 1, Integer.MAX_VALUE}) {
            dueThrow(call + " " + number, beyond, () -> body.run(number));
        }
        for (int number : new int[] {low, high}) {
            if (low <= high) {
                dueNoThrow(call + " " + number, () -> body.run(number));
            }
        }
    }

    static void dueNoThrow(String call, Call body) {
        asked++;
        try {
            body.run();
        } catch (RuntimeException e) {
            tellWrong(call + " threw " + e + ", due is an answer");
        }
    }

    static void close(String name) {
        System.out.println(name + ": " + asked + " answers, " + wrong + " wrong");
        if (wrong > 0) {
            System.exit(1);
        }
    }

    Desk() {
    }

    /** A press with a STYLE and a SOURCE. */
    Desk(String style, String source) {
        style(style);
        source(source);
    }

    Desk set(int rounds) {
        press.set(rounds);
        return this;
    }

    Desk tape(String text) {
        press.end(0);
        int length = text.length();
        byte[] bytes = new byte[Math.max(20, length)];
        for (int i = 0; i < length; i++) {
            bytes[i] = (byte) text.charAt(i);
        }
        for (int i = 0; i + 20 <= length; i += 20) {
            feed(bytes, i);
        }
        if (length < 20) {
            feed(bytes, 0);
            press.end(length);
        } else if (length % 20 > 0) {
            // the last 20 bytes, so that a text may fill the TAPE
            press.end(length - 20);
            feed(bytes, length - 20);
        }
        return this;
    }

    private void feed(byte[] bytes, int i) {
        press.feed(at(bytes, i), at(bytes, i + 4), at(bytes, i + 8), at(bytes, i + 12), at(bytes, i + 16));
    }

    private static int at(byte[] b, int i) {
        return (b[i] & 255) << 24 | (b[i + 1] & 255) << 16 | (b[i + 2] & 255) << 8 | b[i + 3] & 255;
    }

    int font(String text) {
        return tape(text).press.font();
    }

    int hyphens(String text) {
        return tape(text).press.hyphens();
    }

    int style(String text) {
        return tape(text).press.style();
    }

    int source(String text) {
        return tape(text).press.source();
    }

    int change(int from, int to, String text) {
        return tape(text).press.change(from, to);
    }

    int where(String id, int what) {
        return tape(id).press.where(what);
    }

    long judge(int p, String row) {
        return tape(row).press.judge(p);
    }

    /** Page n as OUT tells it. */
    String page(int n) {
        int length = press.print(n);
        StringBuilder text = new StringBuilder();
        for (int i = 0; i < length; i += 8) {
            long word = press.word(i);
            for (int k = 0; k < 8 && i + k < length; k++) {
                text.append((char) (word >> (56 - 8 * k) & 255));
            }
        }
        return text.toString();
    }

    /** A text must be BROKEN at a PLACE, or with -1 be taken. */
    void broken(String kind, String text, int place) {
        tape(text);
        boolean threw = false;
        try {
            switch (kind) {
                case "font": press.font(); break;
                case "hyphens": press.hyphens(); break;
                case "style": press.style(); break;
                default: press.source(); break;
            }
        } catch (UnsupportedOperationException e) {
            threw = true;
        }
        due(kind + " " + text + " throws", place >= 0 ? 1 : 0, threw ? 1 : 0);
        due(kind + " " + text + " place", place, press.place());
        due(kind + " leaves the TAPE empty", 0, tapeLength());
    }

    /** One answer for each ELEMENT, with blanks between. */
    String elements(int what) {
        StringBuilder got = new StringBuilder();
        for (int e = 0; e < press.count(0); e++) {
            got.append(e > 0 ? " " : "").append(press.element(e, what));
        }
        return got.toString();
    }

    /** One answer for each line of FLOW, with blanks between. */
    String lines(int what) {
        StringBuilder got = new StringBuilder();
        for (int l = 0; l < press.count(5); l++) {
            got.append(l > 0 ? " " : "").append(press.line(l, what));
        }
        return got.toString();
    }

    /** One answer for each PARAGRAPH, with blanks between. */
    String paragraphs(int what) {
        StringBuilder got = new StringBuilder();
        for (int p = 0; p < press.count(6); p++) {
            got.append(p > 0 ? " " : "").append(press.paragraph(p, what));
        }
        return got.toString();
    }

    /** Where the WORDS of a line begin, with blanks between. */
    String spots(int l) {
        StringBuilder got = new StringBuilder();
        for (int w = 0; w < 1000; w++) {
            try {
                got.append(w > 0 ? " " : "").append(press.spot(l, w));
            } catch (IndexOutOfBoundsException e) {
                break;
            }
        }
        return got.toString().trim();
    }

    /** The texts of a page, without its HEAD and where they stand, with | between. */
    String texts(int n) {
        StringBuilder got = new StringBuilder();
        String[] rows = page(n).split("\n");
        for (int k = 1; k < rows.length; k++) {
            got.append(k > 1 ? "|" : "").append(rows[k].replaceFirst("^-?\\d+ (\\d+ )?", ""));
        }
        return got.toString();
    }

    /** The texts of all pages, with || between. */
    String texts() {
        StringBuilder got = new StringBuilder();
        for (int n = 1; n <= press.count(3); n++) {
            got.append(n > 1 ? "||" : "").append(texts(n));
        }
        return got.toString();
    }

    /** How long the TAPE is, found without changing it. */
    int tapeLength() {
        try {
            int length = press.feed(0, 0, 0, 0, 0) - 20;
            return press.end(length);
        } catch (IndexOutOfBoundsException e) {
            return fullTapeLength();
        }
    }

    private int fullTapeLength() {
        for (int n = 16384; n > 0; n--) {
            try {
                return press.end(n);
            } catch (IllegalArgumentException e) {
                continue;
            }
        }
        return 0;
    }

    static final Class<?> ARGUMENT = IllegalArgumentException.class;
    static final Class<?> STATE = IllegalStateException.class;
    static final Class<?> INDEX = IndexOutOfBoundsException.class;
    static final Class<?> BROKEN = UnsupportedOperationException.class;
    static final Class<?> NONE = NoSuchElementException.class;
    static final Class<?> ARITHMETIC = ArithmeticException.class;
}
