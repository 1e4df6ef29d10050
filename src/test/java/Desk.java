import java.util.NoSuchElementException;

/** A press with texts instead of ints at its TAPE, and a count of the answers that were not due. */
final class Desk {
    private static int asked = 0;
    private static int wrong = 0;

    /** A call that may throw. */
    interface Call {
        long run();
    }

    final ScholarsPress press = new ScholarsPress();

    static void due(String call, long want, long got) {
        asked++;
        if (got != want) {
            wrong++;
            System.out.println(call + " answered " + got + ", due is " + want);
        }
    }

    static void due(String call, String want, String got) {
        asked++;
        if (!got.equals(want)) {
            wrong++;
            System.out.println(call + " answered\n" + got + "due is\n" + want);
        }
    }

    static void dueThrow(String call, Class<?> want, Call body) {
        asked++;
        String got;
        try {
            got = "" + body.run();
        } catch (RuntimeException e) {
            if (e.getClass() == want) {
                return;
            }
            got = e.toString();
        }
        wrong++;
        System.out.println(call + " answered " + got + ", due is " + want.getSimpleName());
    }

    static void close(String name) {
        System.out.println(name + ": " + asked + " answers, " + wrong + " wrong");
        if (wrong > 0) {
            System.exit(1);
        }
    }

    Desk tape(String text) {
        press.end(0);
        byte[] bytes = new byte[(text.length() + 19) / 20 * 20];
        for (int i = 0; i < text.length(); i++) {
            bytes[i] = (byte) text.charAt(i);
        }
        for (int i = 0; i < bytes.length; i += 20) {
            press.feed(at(bytes, i), at(bytes, i + 4), at(bytes, i + 8), at(bytes, i + 12), at(bytes, i + 16));
        }
        press.end(text.length());
        return this;
    }

    private static int at(byte[] b, int i) {
        return (b[i] & 255) << 24 | (b[i + 1] & 255) << 16 | (b[i + 2] & 255) << 8 | b[i + 3] & 255;
    }

    int font(String text) {
        return tape(text).press.font();
    }

    int hyphens(String text) {
        return tape(text).press.hyphens();
    }

    int style(String text) {
        return tape(text).press.style();
    }

    int source(String text) {
        return tape(text).press.source();
    }

    int change(int from, int to, String text) {
        return tape(text).press.change(from, to);
    }

    int where(String id, int what) {
        return tape(id).press.where(what);
    }

    long judge(int p, String row) {
        return tape(row).press.judge(p);
    }

    /** Page n as OUT tells it. */
    String page(int n) {
        int length = press.print(n);
        StringBuilder text = new StringBuilder();
        for (int i = 0; i < length; i += 8) {
            long word = press.word(i);
            for (int k = 0; k < 8 && i + k < length; k++) {
                text.append((char) (word >> (56 - 8 * k) & 255));
            }
        }
        return text.toString();
    }

    /** A text must be BROKEN at a PLACE, or with -1 be taken. */
    void broken(String kind, String text, int place) {
        tape(text);
        boolean threw = false;
        try {
            switch (kind) {
                case "font": press.font(); break;
                case "hyphens": press.hyphens(); break;
                case "style": press.style(); break;
                default: press.source(); break;
            }
        } catch (UnsupportedOperationException e) {
            threw = true;
        }
        due(kind + " " + text + " throws", place >= 0 ? 1 : 0, threw ? 1 : 0);
        due(kind + " " + text + " place", place, press.place());
        due(kind + " leaves the TAPE empty", 0, tapeLength());
    }

    /** How long the TAPE is, found without changing it. */
    int tapeLength() {
        for (int n = 16384; n > 0; n--) {
            try {
                return press.end(n);
            } catch (IllegalArgumentException e) {
                continue;
            }
        }
        return 0;
    }

    static final Class<?> ARGUMENT = IllegalArgumentException.class;
    static final Class<?> STATE = IllegalStateException.class;
    static final Class<?> INDEX = IndexOutOfBoundsException.class;
    static final Class<?> BROKEN = UnsupportedOperationException.class;
    static final Class<?> NONE = NoSuchElementException.class;
    static final Class<?> ARITHMETIC = ArithmeticException.class;
}
