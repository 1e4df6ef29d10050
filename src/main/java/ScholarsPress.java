import java.util.Arrays;
import java.util.NoSuchElementException;

/** A press for editions: see README.md and the document of its promises. */
public final class ScholarsPress {
    private static final int TEXT_LIMIT = 16384;
    private static final int OUT_LIMIT = 65536;
    private static final int COLUMN_LIMIT = 1500;
    private static final int LINE_LIMIT = 1500;
    private static final int FINE = 0;
    private static final int LIMIT = 1;
    private static final int NO_COLUMNS = 2;

    private final byte[] tape;
    private int tapeLength;
    private int brokenAt;
    private final Signs signs;
    private Source sourceNow;
    private Source sourceSpare;
    private Style styleNow;
    private Style styleSpare;
    private Font fontNow;
    private Font fontSpare;
    private Hyphens hyphensNow;
    private Hyphens hyphensSpare;
    private Looks looks;
    private boolean looksFresh;
    private Pages pagesNow;
    private Pages pagesSpare;
    private Writer writer;
    private Breaker breaker;
    private Stacker stacker;
    private byte[] out;
    private int outLength;

    public ScholarsPress() {
        tape = new byte[TEXT_LIMIT];
        brokenAt = -1;
        signs = new Signs();
        styleNow = new Style();
        fontNow = new Font();
        hyphensNow = new Hyphens();
    }

    public int feed(int a, int b, int c, int d, int e) throws IndexOutOfBoundsException {
        if (tapeLength + 20 > TEXT_LIMIT) {
            throw new IndexOutOfBoundsException();
        }
        feedInt(a);
        feedInt(b);
        feedInt(c);
        feedInt(d);
        feedInt(e);
        return tapeLength;
    }

    public int end(int n) throws IllegalArgumentException {
        if (n < 0 || n > tapeLength) {
            throw new IllegalArgumentException();
        }
        tapeLength = n;
        return n;
    }

    public int font() throws UnsupportedOperationException {
        if (fontSpare == null) {
            fontSpare = new Font();
        }
        signs.begin(tape, takeTape());
        if (!fontSpare.read(signs)) {
            brokenAt = signs.start;
            throw new UnsupportedOperationException();
        }
        Font read = fontSpare;
        fontSpare = fontNow;
        fontNow = read;
        return read.widthsTold + read.pairs;
    }

    public int hyphens() throws UnsupportedOperationException {
        if (hyphensSpare == null) {
            hyphensSpare = new Hyphens();
        }
        if (!hyphensSpare.read(tape, takeTape())) {
            brokenAt = hyphensSpare.at;
            throw new UnsupportedOperationException();
        }
        Hyphens read = hyphensSpare;
        hyphensSpare = hyphensNow;
        hyphensNow = read;
        return read.patterns + read.exceptions;
    }

    public int style() throws UnsupportedOperationException {
        if (styleSpare == null) {
            styleSpare = new Style();
        }
        if (!styleSpare.read(tape, takeTape(), signs)) {
            brokenAt = signs.start;
            throw new UnsupportedOperationException();
        }
        Style read = styleSpare;
        styleSpare = styleNow;
        styleNow = read;
        looksFresh = false;
        return read.selectors;
    }

    public int source() throws UnsupportedOperationException {
        makeSpareSource();
        int length = takeTape();
        System.arraycopy(tape, 0, sourceSpare.text, 0, length);
        if (!takeSource(length)) {
            throw new UnsupportedOperationException();
        }
        return sourceNow.elements;
    }

    public int change(int from, int to) throws IllegalArgumentException, IllegalStateException,
            IndexOutOfBoundsException, UnsupportedOperationException {
        if (from < 0 || to < from || (sourceNow != null && to > sourceNow.length)) {
            throw new IllegalArgumentException();
        }
        if (sourceNow == null) {
            throw new IllegalStateException();
        }
        int added = takeTape();
        int length = sourceNow.length - (to - from) + added;
        if (length > TEXT_LIMIT) {
            throw new IndexOutOfBoundsException();
        }
        makeSpareSource();
        byte[] text = sourceSpare.text;
        System.arraycopy(sourceNow.text, 0, text, 0, from);
        System.arraycopy(tape, 0, text, from, added);
        System.arraycopy(sourceNow.text, to, text, from + added, sourceNow.length - to);
        if (!takeSource(length)) {
            throw new UnsupportedOperationException();
        }
        return sourceNow.elements;
    }

    public int place() {
        return brokenAt;
    }

    public int set(int rounds) throws IllegalArgumentException, IllegalStateException,
            IndexOutOfBoundsException, ArithmeticException {
        if (rounds < 1 || rounds > 9) {
            throw new IllegalArgumentException();
        }
        if (sourceNow == null) {
            throw new IllegalStateException();
        }
        freshenLooks();
        makeReady();
        int done = 0;
        boolean settled = false;
        for (int round = 1; round <= rounds && !settled; round++) {
            int outcome = playRound();
            if (outcome == LIMIT) {
                throw new IndexOutOfBoundsException();
            }
            if (outcome == NO_COLUMNS) {
                throw new ArithmeticException();
            }
            done = round;
            settled = pagesSpare.wavers == 0;
        }
        pagesSpare.keep(looks, pagesNow);
        Pages made = pagesSpare;
        pagesSpare = pagesNow;
        pagesNow = made;
        return settled ? done : -done;
    }

    public int element(int e, int what) throws IllegalArgumentException, IllegalStateException {
        boolean known = (what >= 0 && what <= 7) || (what >= 20 && what <= 41);
        if (!known || e < 0 || (sourceNow != null && e >= sourceNow.elements)) {
            throw new IllegalArgumentException();
        }
        if (sourceNow == null) {
            throw new IllegalStateException();
        }
        freshenLooks();
        if (what >= 20) {
            return looks.told(e, what - 20);
        }
        switch (what) {
            case 0: return sourceNow.fact(e, Source.PARENT);
            case 1: return sourceNow.fact(e, Source.FIRST);
            case 2: return sourceNow.fact(e, Source.BEHIND);
            case 3: return sourceNow.fact(e, Source.FIELD_COUNT);
            case 4: return looks.fact(e, Looks.SHOWN);
            case 5: return looks.fact(e, Looks.VALUE);
            case 6: return looks.fact(e, Looks.TITLE);
            default: return looks.fact(e, Looks.FLOW);
        }
    }

    public int count(int what) throws IllegalArgumentException {
        if (what < 0 || what > 11) {
            throw new IllegalArgumentException();
        }
        if (what <= 2) {
            return sourceNow == null ? 0 : countSource(what);
        }
        return pagesNow == null ? 0 : pagesNow.tally(what);
    }

    public int line(int l, int what) throws IllegalArgumentException, IllegalStateException,
            IndexOutOfBoundsException {
        if (what < 0 || what > 6) {
            throw new IllegalArgumentException();
        }
        if (pagesNow == null) {
            throw new IllegalStateException();
        }
        if (l < 0 || l >= pagesNow.lines) {
            throw new IndexOutOfBoundsException();
        }
        boolean row = pagesNow.isRow(l);
        int p = pagesNow.lineFact(l, Pages.PARAGRAPH);
        int index = pagesNow.lineFact(l, Pages.INDEX);
        switch (what) {
            case 0: return pagesNow.lineFact(l, Pages.COLUMN);
            case 1: return pagesNow.lineFact(l, Pages.TOP);
            case 2: return row ? -1 : p;
            case 3: return pagesNow.lineFact(l, Pages.NUMBER);
            case 4: return row ? 0 : breaker.ratioOf(pagesNow.texts, p, index);
            case 5: return row ? 0 : pagesNow.texts.lineStop(p, index);
            default: return pagesNow.lineLeft(l);
        }
    }

    public long spot(int l, int w) throws IllegalStateException, IndexOutOfBoundsException {
        if (pagesNow == null) {
            throw new IllegalStateException();
        }
        if (l < 0 || l >= pagesNow.lines || w < 0 || pagesNow.isRow(l)) {
            throw new IndexOutOfBoundsException();
        }
        int p = pagesNow.lineFact(l, Pages.PARAGRAPH);
        int index = pagesNow.lineFact(l, Pages.INDEX);
        if (w > pagesNow.texts.gluesIn(p, index)) {
            throw new IndexOutOfBoundsException();
        }
        return pagesNow.lineLeft(l) + breaker.spotIn(pagesNow.texts, p, index, w);
    }

    public long paragraph(int p, int what) throws IllegalArgumentException, IllegalStateException,
            IndexOutOfBoundsException {
        if (what < 0 || what > 6) {
            throw new IllegalArgumentException();
        }
        if (pagesNow == null) {
            throw new IllegalStateException();
        }
        Texts texts = pagesNow.texts;
        if (p < 0 || p >= texts.paragraphs) {
            throw new IndexOutOfBoundsException();
        }
        switch (what) {
            case 0: return texts.costs[p];
            case 1: return texts.fact(p, Texts.LINE_COUNT);
            case 2: return texts.fact(p, Texts.BREAK_COUNT);
            case 3: return texts.fact(p, Texts.TOLD);
            case 4: return texts.fact(p, Texts.WIDTH);
            case 5: return texts.fact(p, Texts.STOP) - texts.fact(p, Texts.START);
            default: return texts.fact(p, Texts.OWNER);
        }
    }

    public long judge(int p) throws IllegalStateException, IndexOutOfBoundsException,
            UnsupportedOperationException {
        if (pagesNow == null) {
            throw new IllegalStateException();
        }
        int length = takeTape();
        if (p < 0 || p >= pagesNow.texts.paragraphs) {
            throw new IndexOutOfBoundsException();
        }
        signs.begin(tape, length);
        if (!breaker.readRow(signs, pagesNow.texts.fact(p, Texts.BREAK_COUNT))) {
            brokenAt = signs.start;
            throw new UnsupportedOperationException();
        }
        return breaker.costOfRow(pagesNow.texts, p);
    }

    public int where(int what) throws IllegalArgumentException, IllegalStateException,
            NoSuchElementException {
        if (what < 0 || what > 5) {
            throw new IllegalArgumentException();
        }
        if (pagesNow == null) {
            throw new IllegalStateException();
        }
        int length = tapeLength;
        tapeLength = 0;
        int e = pagesNow.elementWithId(tape, length);
        if (e < 0 || pagesNow.elementFact(e, Pages.FLOW) == 0) {
            throw new NoSuchElementException();
        }
        switch (what) {
            case 0: return e;
            case 1: return pagesNow.pageOf(e);
            case 2: return pagesNow.numberAt(pagesNow.elementFact(e, Pages.BEGIN));
            case 3: return pagesNow.elementFact(e, Pages.BEGIN);
            case 4: return pagesNow.elementFact(e, Pages.FINISH);
            default: return pagesNow.elementFact(e, Pages.VALUE);
        }
    }

    public int note(int n, int what) throws IllegalArgumentException, IllegalStateException,
            IndexOutOfBoundsException {
        boolean ofNote = what >= 0 && what <= 5;
        if (!ofNote && (what < 10 || what > 13)) {
            throw new IllegalArgumentException();
        }
        if (pagesNow == null) {
            throw new IllegalStateException();
        }
        if (n < 0 || n >= (ofNote ? pagesNow.notes : pagesNow.floats)) {
            throw new IndexOutOfBoundsException();
        }
        return ofNote ? pagesNow.tellNote(n, what) : pagesNow.tellFloat(n, what - 10);
    }

    public int wavering(int k) throws IllegalStateException, IndexOutOfBoundsException {
        if (pagesNow == null) {
            throw new IllegalStateException();
        }
        if (k < 0 || k >= pagesNow.wavers) {
            throw new IndexOutOfBoundsException();
        }
        return pagesNow.waverers[k];
    }

    public int print(int n) throws IllegalStateException, IndexOutOfBoundsException {
        if (pagesNow == null) {
            throw new IllegalStateException();
        }
        if (n < 1 || n > pagesNow.pages) {
            throw new IndexOutOfBoundsException();
        }
        // the first time only counts, so that a page that is too long leaves OUT alone
        int length = pagesNow.printPage(n, null);
        if (length > OUT_LIMIT) {
            throw new IndexOutOfBoundsException();
        }
        if (out == null) {
            out = new byte[OUT_LIMIT];
        }
        outLength = pagesNow.printPage(n, out);
        return outLength;
    }

    public long word(int i) throws IndexOutOfBoundsException {
        if (i < 0 || i >= outLength) {
            throw new IndexOutOfBoundsException();
        }
        long bytes = 0;
        for (int k = i; k < i + 8; k++) {
            bytes = (bytes << 8) | (k < outLength ? out[k] & 255 : 0);
        }
        return bytes;
    }

    private void feedInt(int bytes) {
        for (int shift = 24; shift >= 0; shift -= 8) {
            tape[tapeLength] = (byte) (bytes >> shift);
            tapeLength++;
        }
    }

    /** Empties the TAPE for a call that tells PLACE; its bytes stay to be read by that call. */
    private int takeTape() {
        int length = tapeLength;
        tapeLength = 0;
        brokenAt = -1;
        return length;
    }

    private void makeSpareSource() {
        if (sourceSpare == null) {
            sourceSpare = new Source();
        }
    }

    private boolean takeSource(int length) {
        if (!sourceSpare.read(length)) {
            brokenAt = sourceSpare.at;
            return false;
        }
        Source read = sourceSpare;
        sourceSpare = sourceNow;
        sourceNow = read;
        looksFresh = false;
        return true;
    }

    private int countSource(int what) {
        if (what == 0) {
            return sourceNow.elements;
        }
        return what == 1 ? sourceNow.entities : sourceNow.length;
    }

    private void freshenLooks() {
        if (looks == null) {
            looks = new Looks();
        }
        if (!looksFresh) {
            looks.refresh(sourceNow, styleNow);
            looksFresh = true;
        }
    }

    /** Rows that only set needs are made when it is called first: many objects are never SET. */
    private void makeReady() {
        if (writer == null) {
            writer = new Writer();
            breaker = new Breaker();
            stacker = new Stacker();
        }
        if (pagesSpare == null) {
            pagesSpare = new Pages();
        }
        writer.forget();
        System.arraycopy(styleNow.page, 0, pagesSpare.page, 0, Style.PAGE_VALUES);
    }

    private int playRound() {
        Pages made = pagesSpare;
        Texts texts = made.texts;
        writer.write(looks, made);
        for (int n = 0; n < made.notes && !writer.over; n++) {
            writer.writeNote(n);
        }
        if (writer.over || looks.tooManyEntries) {
            return LIMIT;
        }
        for (int p = 0; p < texts.paragraphs; p++) {
            if (!breaker.part(texts, p, fontNow, looks.hyphensFor(texts, p) ? hyphensNow : null)) {
                return LIMIT;
            }
        }
        texts.layTables();
        for (int p = 0; p < texts.paragraphs; p++) {
            breaker.breakLines(texts, p);
        }
        if (!made.makeLines(looks)) {
            return LIMIT;
        }
        made.findElements(looks);
        int outcome = stacker.stack(made);
        if (outcome == FINE) {
            made.finish(looks);
            made.compare(looks, writer);
            writer.take(made);
        }
        return outcome;
    }

    /** The SIGNS of FONT and STYLE one by one, and what blanks and NAMES are everywhere. */
    private static final class Signs {
        static final int END = 0;
        static final int NAME = 1;
        static final int NUMBER = 2;
        static final int STRING = 3;
        static final int OTHER = 4;
        static final int BAD = 5;
        static final int NAME_LIMIT = 12;
        static final int NUMBER_LIMIT = 7;

        byte[] text;
        int length;
        int at;
        int kind;
        int start;
        int stop;
        int number;
        long name;

        static boolean isBlank(int c) {
            return c == 10 || c == 32;
        }

        static boolean isSmall(int c) {
            return c >= 'a' && c <= 'z';
        }

        static boolean isDigit(int c) {
            return c >= '0' && c <= '9';
        }

        /** A byte of a NAME as a digit of base 37, so that a whole NAME is one long; 0 for others. */
        static int nameDigit(int c) {
            if (c >= 'a' && c <= 'z') {
                return c - 'a' + 1;
            }
            return c >= '0' && c <= '9' ? c - '0' + 27 : 0;
        }

        /** Which word of a list with blanks between, all of small letters, a NAME is; -1 if none. */
        static int listed(String list, long name) {
            int word = 0;
            long code = 0;
            for (int i = 0; i < list.length(); i++) {
                char c = list.charAt(i);
                if (c == ' ') {
                    if (code == name) {
                        return word;
                    }
                    word++;
                    code = 0;
                } else {
                    code = code * 37 + c - 'a' + 1;
                }
            }
            return code == name ? word : -1;
        }

        static int behindBlanks(byte[] text, int from, int length) {
            int at = from;
            while (at < length && (text[at] == 10 || text[at] == 32)) {
                at++;
            }
            return at;
        }

        /** Where a stretch of a text begins and ends, in one number. */
        static int span(int from, int stop) {
            return from << 14 | stop;
        }

        static int spanFrom(int span) {
            return span >> 14;
        }

        static int spanStop(int span) {
            return span & 16383;
        }

        /** The NAME that a word of small letters is. */
        static long nameCode(String word) {
            long code = 0;
            for (int i = 0; i < word.length(); i++) {
                code = code * 37 + word.charAt(i) - 'a' + 1;
            }
            return code;
        }

        void begin(byte[] bytes, int byteCount) {
            text = bytes;
            length = byteCount;
            at = 0;
            next();
        }

        boolean is(char c) {
            return kind == OTHER && number == c;
        }

        /** The next SIGN; one that is too long, or a STRING without its end, is BAD wherever it stands. */
        void next() {
            at = behindBlanks(text, at, length);
            start = at;
            int c = at < length ? text[at] & 255 : -1;
            if (c < 0) {
                kind = END;
            } else if (c >= 'a' && c <= 'z') {
                name = 0;
                for (; at < length && nameDigit(text[at]) > 0; at++) {
                    name = name * 37 + nameDigit(text[at]);
                }
                kind = at - start > NAME_LIMIT ? BAD : NAME;
            } else if (c >= '0' && c <= '9') {
                number = 0;
                for (; at < length && text[at] >= '0' && text[at] <= '9'; at++) {
                    number = number * 10 + text[at] - '0';
                }
                kind = at - start > NUMBER_LIMIT ? BAD : NUMBER;
            } else if (c == '"') {
                kind = BAD;
                for (at++; at < length && text[at] >= 32 && text[at] <= 126 && kind == BAD; at++) {
                    if (text[at] == '"') {
                        stop = at;
                        kind = STRING;
                    }
                }
            } else {
                kind = OTHER;
                number = c;
                at++;
            }
        }
    }

    /** FONT: widths of bytes, and kerns and joins of pairs of them. */
    private static final class Font {
        static final int KERN = 1;
        static final int KERNS = 200;
        static final int JOINS = 60;
        static final int SLOTS = 1024;
        static final int NONE = -1000;

        final int[] widths;
        final boolean[] told;
        int widthsTold;
        final int[] keys;
        final int[] values;
        final int[] slots;
        int pairs;
        int kerns;

        Font() {
            widths = new int[128];
            told = new boolean[128];
            keys = new int[KERNS + JOINS];
            values = new int[KERNS + JOINS];
            slots = new int[SLOTS];
            Arrays.fill(widths, 500);
        }

        boolean read(Signs s) {
            Arrays.fill(widths, 500);
            Arrays.fill(slots, 0);
            for (int b = 0; b < 128; b++) {
                told[b] = false;
            }
            widthsTold = 0;
            pairs = 0;
            kerns = 0;
            for (int n = 0; n <= s.length && s.kind != Signs.END; n++) {
                if (!readRule(s)) {
                    return false;
                }
            }
            return true;
        }

        private boolean readRule(Signs s) {
            int what = s.kind == Signs.NAME ? Signs.listed("width kern join", s.name) : -1;
            if (what < 0) {
                return false;
            }
            s.next();
            if (!isByte(s)) {
                return false;
            }
            int first = s.text[s.start + 1];
            int pair = -1;
            s.next();
            if (what > 0) {
                pair = isByte(s) ? pairFor(what, first, s.text[s.start + 1]) : -1;
                if (pair < 0) {
                    return false;
                }
                s.next();
            }
            boolean minus = what == KERN && s.is('-');
            if (minus) {
                s.next();
            }
            if (s.kind != Signs.NUMBER || s.number > (what == KERN ? 500 : 5000)) {
                return false;
            }
            if (pair < 0) {
                tellWidth(first, s.number);
            } else {
                values[pair] = minus ? -s.number : s.number;
            }
            s.next();
            if (!s.is(';')) {
                return false;
            }
            s.next();
            return true;
        }

        private static boolean isByte(Signs s) {
            return s.kind == Signs.STRING && s.stop == s.start + 2;
        }

        private void tellWidth(int b, int width) {
            if (!told[b]) {
                told[b] = true;
                widthsTold++;
            }
            widths[b] = width;
        }

        /** The pair's number, a new one if it was not told before; -1 if it is one too much. */
        private int pairFor(int what, int first, int second) {
            int key = keyOf(what, first, second);
            int slot = slotOf(key);
            if (slots[slot] > 0) {
                return slots[slot] - 1;
            }
            if (what == KERN ? kerns == KERNS : pairs - kerns == JOINS) {
                return -1;
            }
            keys[pairs] = key;
            pairs++;
            if (what == KERN) {
                kerns++;
            }
            slots[slot] = pairs;
            return pairs - 1;
        }

        private static int keyOf(int what, int first, int second) {
            return (what * 128 + first) * 128 + second;
        }

        /** The slot that holds the key, or the free one where it belongs: there are always free ones. */
        private int slotOf(int key) {
            int slot = (key * 37 + (key >> 7)) & (SLOTS - 1);
            for (int n = 0; n < SLOTS; n++) {
                if (slots[slot] == 0 || keys[slots[slot] - 1] == key) {
                    return slot;
                }
                slot = (slot + 1) & (SLOTS - 1);
            }
            return slot;
        }

        private int valueOf(int what, int first, int second) {
            if (pairs == 0) {
                return NONE;
            }
            int slot = slotOf(keyOf(what, first, second));
            return slots[slot] > 0 ? values[slots[slot] - 1] : NONE;
        }

        int width(int b, int size) {
            return size * widths[b & 127] / 1000;
        }

        /** The width of the PART of bytes from .. before to. */
        long partWidth(Texts texts, int from, int to) {
            long sum = 0;
            int before = -1;
            int sizeBefore = 0;
            int i = from;
            for (int n = from; n < to && i < to; n++) {
                int b = texts.bytes[i];
                int size = texts.sizes[i];
                if (before >= 0 && sizeBefore == size) {
                    int kern = valueOf(KERN, before, b);
                    sum += kern == NONE ? 0 : size * kern / 1000;
                }
                boolean neighbour = i + 1 < to && texts.sizes[i + 1] == size;
                int join = neighbour ? valueOf(KERN + 1, b, texts.bytes[i + 1]) : NONE;
                if (join == NONE) {
                    sum += width(b, size);
                    before = b;
                    i++;
                } else {
                    sum += size * join / 1000;
                    before = texts.bytes[i + 1];
                    i += 2;
                }
                sizeBefore = size;
            }
            return Math.max(sum, 0);
        }
    }

    /** HYPHENS: PATTERNS and EXCEPTIONS, and the PLACES that they give. */
    private static final class Hyphens {
        static final int PATTERNS = 300;
        static final int EXCEPTIONS = 60;
        static final int PATTERN_LETTERS = 12;
        static final int EXCEPTION_LETTERS = 30;
        // 12 letters and two . have 15 places for digits
        static final int WIDE = 15;

        int at;
        int ahead;
        int behind;
        boolean endsDue;
        int patterns;
        final byte[] signs;
        final byte[] digits;
        final int[] sizes;
        final int[] links;
        final int[] heads;
        int exceptions;
        final byte[] letters;
        final int[] lengths;
        final int[] places;

        Hyphens() {
            ahead = 2;
            behind = 3;
            // one row more than there may be: a WORD is read into it before it is known to be new
            signs = new byte[(PATTERNS + 1) * WIDE];
            digits = new byte[(PATTERNS + 1) * WIDE];
            sizes = new int[PATTERNS + 1];
            links = new int[PATTERNS];
            heads = new int[128];
            letters = new byte[(EXCEPTIONS + 1) * EXCEPTION_LETTERS];
            lengths = new int[EXCEPTIONS + 1];
            places = new int[EXCEPTIONS + 1];
            Arrays.fill(heads, -1);
        }

        boolean read(byte[] text, int length) {
            ahead = 2;
            behind = 3;
            endsDue = false;
            patterns = 0;
            exceptions = 0;
            Arrays.fill(heads, -1);
            at = 0;
            for (int n = 0; n <= length; n++) {
                at = Signs.behindBlanks(text, at, length);
                if (at >= length) {
                    return !endsDue;
                }
                int stop = at;
                for (; stop < length && !Signs.isBlank(text[stop]); stop++) {
                    if (text[stop] < 33 || text[stop] > 126) {
                        return false;
                    }
                }
                if (!readWord(text, stop)) {
                    return false;
                }
                at = stop;
            }
            return !endsDue;
        }

        private boolean readWord(byte[] text, int stop) {
            if (endsDue) {
                endsDue = false;
                return readEnds(text, stop);
            }
            if (stop - at == 4 && text[at] == 'e' && text[at + 1] == 'n' && text[at + 2] == 'd'
                    && text[at + 3] == 's') {
                endsDue = true;
                return true;
            }
            return text[at] == '=' ? readException(text, stop) : readPattern(text, stop);
        }

        private boolean readEnds(byte[] text, int stop) {
            if (stop - at != 2 || text[at] < '1' || text[at] > '9' || text[at + 1] < '1' || text[at + 1] > '9') {
                return false;
            }
            ahead = text[at] - '0';
            behind = text[at + 1] - '0';
            return true;
        }

        private boolean readException(byte[] text, int stop) {
            int row = exceptions * EXCEPTION_LETTERS;
            int length = 0;
            int mask = 0;
            boolean dash = true;
            for (int i = at + 1; i < stop; i++) {
                if (text[i] == '-') {
                    if (dash) {
                        return false;
                    }
                    dash = true;
                    mask |= 1 << length;
                } else {
                    if (!Signs.isSmall(text[i]) || length == EXCEPTION_LETTERS) {
                        return false;
                    }
                    letters[row + length] = text[i];
                    length++;
                    dash = false;
                }
            }
            return !dash && keepException(length, mask);
        }

        private boolean keepException(int length, int mask) {
            int same = exceptionLike(letters, exceptions * EXCEPTION_LETTERS, length);
            if (same < 0) {
                if (exceptions == EXCEPTIONS) {
                    return false;
                }
                same = exceptions;
                lengths[same] = length;
                exceptions++;
            }
            places[same] = mask;
            return true;
        }

        private int exceptionLike(byte[] text, int from, int length) {
            for (int x = 0; x < exceptions; x++) {
                boolean same = lengths[x] == length;
                for (int i = 0; i < length && same; i++) {
                    same = letters[x * EXCEPTION_LETTERS + i] == small(text[from + i]);
                }
                if (same) {
                    return x;
                }
            }
            return -1;
        }

        private boolean readPattern(byte[] text, int stop) {
            int row = patterns * WIDE;
            Arrays.fill(digits, row, row + WIDE, (byte) 0);
            int size = 0;
            int letterCount = 0;
            boolean digit = false;
            for (int i = at; i < stop; i++) {
                int c = text[i];
                boolean dot = c == '.' && (i == at || (i == stop - 1 && letterCount > 0));
                boolean letter = Signs.isSmall(c) && letterCount < PATTERN_LETTERS;
                if (dot || letter) {
                    signs[row + size] = (byte) c;
                    size++;
                    letterCount += letter ? 1 : 0;
                    digit = false;
                } else if (Signs.isDigit(c) && !digit) {
                    digits[row + size] = (byte) (c - '0');
                    digit = true;
                } else {
                    return false;
                }
            }
            return letterCount > 0 && keepPattern(size);
        }

        private boolean keepPattern(int size) {
            int row = patterns * WIDE;
            int head = signs[row] & 127;
            int x = heads[head];
            for (int n = 0; n < patterns && x >= 0; n++) {
                boolean same = sizes[x] == size;
                for (int i = 0; i < size && same; i++) {
                    same = signs[x * WIDE + i] == signs[row + i];
                }
                if (same) {
                    System.arraycopy(digits, row, digits, x * WIDE, WIDE);
                    return true;
                }
                x = links[x];
            }
            if (patterns == PATTERNS) {
                return false;
            }
            sizes[patterns] = size;
            links[patterns] = heads[head];
            heads[head] = patterns;
            patterns++;
            return true;
        }

        static int small(int c) {
            return c >= 'A' && c <= 'Z' ? c + 32 : c;
        }

        /** Tells of the row of letters from .. before to: worth is odd at byte i if a PLACE is ahead of it. */
        void mark(byte[] text, int from, int to, byte[] worth) {
            int length = to - from;
            Arrays.fill(worth, from, to, (byte) 0);
            int x = length <= EXCEPTION_LETTERS ? exceptionLike(text, from, length) : -1;
            if (x >= 0) {
                for (int i = 1; i < length; i++) {
                    worth[from + i] = (byte) ((places[x] >> i) & 1);
                }
            } else {
                for (int o = 0; o <= length + 1; o++) {
                    markFrom(text, from, to, o, worth);
                }
            }
            for (int i = 0; i < length; i++) {
                if (i < ahead || length - i < behind) {
                    worth[from + i] = 0;
                }
            }
        }

        /** Place o of the row with . at both ends: all PATTERNS that stand from there on. */
        private void markFrom(byte[] text, int from, int to, int o, byte[] worth) {
            int length = to - from;
            int x = heads[signAt(text, from, length, o)];
            for (int n = 0; n < patterns && x >= 0; n++) {
                int size = sizes[x];
                int row = x * WIDE;
                boolean fits = o + size <= length + 2;
                for (int i = 1; i < size && fits; i++) {
                    fits = signs[row + i] == signAt(text, from, length, o + i);
                }
                for (int i = 0; i <= size && fits; i++) {
                    int p = o + i - 1;
                    if (p > 0 && p < length && digits[row + i] > worth[from + p]) {
                        worth[from + p] = digits[row + i];
                    }
                }
                x = links[x];
            }
        }

        private static int signAt(byte[] text, int from, int length, int o) {
            return o == 0 || o > length ? '.' : small(text[from + o - 1]) & 127;
        }
    }

    /** STYLE: SELECTORS with what they tell, and the values of page. */
    private static final class Style {
        static final int SELECTORS = 120;
        static final int STEPS = 8;
        static final int CONDITIONS = 4;
        static final int TOLD = 600;
        static final int COUNTERS = 12;
        static final int PROPERTIES = 22;
        static final int PAGE_VALUES = 6;

        static final int SHOW = 0;
        static final int SIZE = 1;
        static final int LEAD = 2;
        static final int INDENT = 3;
        static final int LEFT = 4;
        static final int RIGHT = 5;
        static final int ABOVE = 6;
        static final int BELOW = 7;
        static final int ALIGN = 8;
        static final int HYPHENS = 9;
        static final int TOLERANCE = 10;
        static final int FIRST = 11;
        static final int LAST = 12;
        static final int KEEP = 13;
        static final int COUNT = 14;
        static final int STEP = 15;
        static final int RESET = 16;
        static final int LABEL = 17;
        static final int FORM = 18;
        static final int DEPTH = 19;
        static final int HEAD = 20;
        static final int HEIGHT = 21;

        static final int PAGE_WIDTH = 0;
        static final int PAGE_HEIGHT = 1;
        static final int PAGE_COLUMNS = 2;
        static final int PAGE_GAP = 3;
        static final int PAGE_RULE = 4;
        static final int PAGE_LINES = 5;

        // facts of a SELECTOR
        static final int WEIGHT = 0;
        static final int FIRST_STEP = 1;
        static final int STEP_COUNT = 2;
        static final int BODY = 3;
        static final int BODY_STOP = 4;
        static final int SELECTOR_FACTS = 5;
        // facts of a STEP
        static final int LINK = 0;
        static final int CONDITION = 1;
        static final int CONDITION_COUNT = 2;
        static final int STEP_FACTS = 3;
        // facts of a bracket or :
        static final int KIND = 0;
        static final int FROM = 1;
        static final int STOP = 2;
        static final int CONDITION_FACTS = 3;
        static final int IS_FIRST = 0;
        static final int IS_LAST = 1;
        static final int IS_EMPTY = 2;
        static final int IS_NTH = 3;
        static final int IS_NOT = 4;
        static final int HAS_FIELD = 5;
        static final int HAS_STRING = 6;

        static final String NAMES = "show size lead indent left right above below align hyphens tolerance first last keep count step reset label form depth head height";
        static final String PAGE_NAMES = "width height columns gap rule lines";
        // w: one of some NAMES, s: size, n: NUMBER, c: COUNTER, l: label
        static final String SORTS = "wsnnnnnnwwnnnwwcclwnwn";
        static final String INHERITED = "0111000011111010001000";
        static final int[] BEGINNING = {0, 10000, 12000, 0, 0, 0, 0, 0, 0, 0, 200, 2, 2, 0, 0, 0, 0, -1, 0, 0, 0, 0};
        static final int[] LOW = {0, 1000, 1000, 0, 0, 0, 0, 0, 0, 0, 1, 1, 1, 0, 0, 0, 0, 0, 0, 0, 0, 0};
        static final int[] HIGH = {0, 100000, 200000, 500000, 500000, 500000, 500000, 500000, 0, 0, 10000, 9, 9,
            0, 0, 0, 0, 0, 0, 9, 0, 1000000};
        static final int[] PAGE_BEGINNING = {300000, 400000, 1, 10000, 6000, 0};
        static final int[] PAGE_LOW = {10000, 10000, 1, 0, 0, 0};
        static final int[] PAGE_HIGH = {1000000, 1000000, 4, 100000, 100000, 0};

        final byte[] text;
        final int[] page;
        int selectors;
        final int[] selector;
        int steps;
        final long[] stepNames;
        final int[] step;
        int conditions;
        final long[] conditionNames;
        final int[] condition;
        int told;
        final int[] toldProperty;
        final int[] toldValue;
        int counters;
        final long[] counterNames;

        Style() {
            text = new byte[TEXT_LIMIT];
            page = new int[PAGE_VALUES];
            selector = new int[SELECTORS * SELECTOR_FACTS];
            stepNames = new long[SELECTORS * STEPS];
            step = new int[SELECTORS * STEPS * STEP_FACTS];
            conditionNames = new long[SELECTORS * STEPS * CONDITIONS];
            condition = new int[SELECTORS * STEPS * CONDITIONS * CONDITION_FACTS];
            toldProperty = new int[TOLD];
            toldValue = new int[TOLD];
            counterNames = new long[COUNTERS];
            System.arraycopy(PAGE_BEGINNING, 0, page, 0, PAGE_VALUES);
        }

        boolean read(byte[] tape, int length, Signs s) {
            System.arraycopy(tape, 0, text, 0, length);
            System.arraycopy(PAGE_BEGINNING, 0, page, 0, PAGE_VALUES);
            selectors = 0;
            steps = 0;
            conditions = 0;
            told = 0;
            counters = 0;
            s.begin(text, length);
            for (int n = 0; n <= length && s.kind != Signs.END; n++) {
                if (!readRule(s)) {
                    return false;
                }
            }
            return true;
        }

        private boolean readRule(Signs s) {
            if (s.kind == Signs.NAME && Signs.listed("page", s.name) == 0) {
                s.next();
                return readBody(s, true);
            }
            int first = selectors;
            boolean more = true;
            for (int n = 0; n <= SELECTORS && more; n++) {
                if (!readSelector(s)) {
                    return false;
                }
                more = s.is(',');
                if (more) {
                    s.next();
                }
            }
            int body = told;
            if (!readBody(s, false)) {
                return false;
            }
            for (int k = first; k < selectors; k++) {
                selector[k * SELECTOR_FACTS + BODY] = body;
                selector[k * SELECTOR_FACTS + BODY_STOP] = told;
            }
            return true;
        }

        private boolean readSelector(Signs s) {
            if (selectors == SELECTORS) {
                return false;
            }
            int row = selectors * SELECTOR_FACTS;
            selectors++;
            selector[row + WEIGHT] = 0;
            selector[row + FIRST_STEP] = steps;
            char link = ' ';
            for (int n = 0; n < STEPS; n++) {
                if (!readStep(s, row, link)) {
                    return false;
                }
                selector[row + STEP_COUNT] = n + 1;
                link = s.is('>') ? '>' : s.is('/') ? '/' : s.is('+') ? '+' : ' ';
                if (link == ' ') {
                    return true;
                }
                s.next();
            }
            return false;
        }

        private boolean readStep(Signs s, int selectorRow, char link) {
            boolean any = s.is('*');
            if (!any && s.kind != Signs.NAME) {
                return false;
            }
            int row = steps * STEP_FACTS;
            stepNames[steps] = any ? 0 : s.name;
            step[row + LINK] = link;
            step[row + CONDITION] = conditions;
            steps++;
            int weight = any ? 0 : 1;
            s.next();
            int n = 0;
            for (; n < CONDITIONS && (s.is('[') || s.is(':')); n++) {
                boolean fine = s.is('[') ? readBracket(s) : readColon(s);
                if (!fine) {
                    return false;
                }
                conditions++;
                weight += 100;
            }
            step[row + CONDITION_COUNT] = n;
            selector[selectorRow + WEIGHT] += weight;
            return !s.is('[') && !s.is(':');
        }

        private boolean readBracket(Signs s) {
            int row = conditions * CONDITION_FACTS;
            s.next();
            if (s.kind != Signs.NAME) {
                return false;
            }
            conditionNames[conditions] = s.name;
            condition[row + KIND] = HAS_FIELD;
            s.next();
            if (s.is('=')) {
                s.next();
                if (s.kind != Signs.STRING) {
                    return false;
                }
                condition[row + KIND] = HAS_STRING;
                condition[row + FROM] = s.start + 1;
                condition[row + STOP] = s.stop;
                s.next();
            }
            if (!s.is(']')) {
                return false;
            }
            s.next();
            return true;
        }

        private boolean readColon(Signs s) {
            int row = conditions * CONDITION_FACTS;
            s.next();
            int kind = s.kind == Signs.NAME ? Signs.listed("first last empty nth not", s.name) : -1;
            if (kind < 0) {
                return false;
            }
            condition[row + KIND] = kind;
            s.next();
            if (kind < IS_NTH) {
                return true;
            }
            if (!s.is('(')) {
                return false;
            }
            s.next();
            if (s.kind != (kind == IS_NTH ? Signs.NUMBER : Signs.NAME)) {
                return false;
            }
            condition[row + FROM] = s.number;
            conditionNames[conditions] = s.name;
            s.next();
            if (!s.is(')')) {
                return false;
            }
            s.next();
            return true;
        }

        private static boolean pass(Signs s, char c) {
            if (!s.is(c)) {
                return false;
            }
            s.next();
            return true;
        }

        private boolean readBody(Signs s, boolean ofPage) {
            if (!pass(s, '{')) {
                return false;
            }
            for (int n = 0; n <= s.length && s.kind == Signs.NAME; n++) {
                boolean fine = ofPage ? readPageValue(s) : readProperty(s);
                if (!fine || !pass(s, ';')) {
                    return false;
                }
            }
            return pass(s, '}');
        }

        private boolean readPageValue(Signs s) {
            int which = Signs.listed(PAGE_NAMES, s.name);
            if (which < 0) {
                return false;
            }
            s.next();
            if (!pass(s, ':')) {
                return false;
            }
            int value;
            if (which == PAGE_LINES) {
                value = s.kind == Signs.NAME ? Signs.listed("no page all", s.name) : -1;
            } else {
                boolean fits = s.kind == Signs.NUMBER && s.number >= PAGE_LOW[which] && s.number <= PAGE_HIGH[which];
                value = fits ? s.number : -1;
            }
            if (value < 0) {
                return false;
            }
            page[which] = value;
            s.next();
            return true;
        }

        private boolean readProperty(Signs s) {
            int property = Signs.listed(NAMES, s.name);
            if (property < 0 || told == TOLD) {
                return false;
            }
            s.next();
            if (!pass(s, ':')) {
                return false;
            }
            toldProperty[told] = property;
            char sort = SORTS.charAt(property);
            boolean fine;
            if (sort == 's') {
                fine = readSize(s);
            } else if (sort == 'n') {
                fine = s.kind == Signs.NUMBER && s.number >= LOW[property] && s.number <= HIGH[property];
                toldValue[told] = s.number;
            } else if (sort == 'l') {
                fine = readLabel(s);
            } else {
                toldValue[told] = s.kind != Signs.NAME ? -1
                        : sort == 'c' ? counterOf(s.name) : Signs.listed(choices(property), s.name);
                fine = toldValue[told] >= 0;
            }
            if (!fine) {
                return false;
            }
            // a size was read together with the SIGN behind it
            if (sort != 's') {
                s.next();
            }
            told++;
            return true;
        }

        /** A size of so many % is kept as 0 less them. */
        private boolean readSize(Signs s) {
            if (s.kind != Signs.NUMBER) {
                return false;
            }
            int start = s.start;
            int number = s.number;
            s.next();
            boolean percent = s.is('%');
            boolean fits = percent ? number >= 1 && number <= 1000 : number >= LOW[SIZE] && number <= HIGH[SIZE];
            if (!fits) {
                s.start = start;
                return false;
            }
            toldValue[told] = percent ? -number : number;
            if (percent) {
                s.next();
            }
            return true;
        }

        /** A STRING is kept as where it begins and ends, none as -1. */
        private boolean readLabel(Signs s) {
            boolean none = s.kind == Signs.NAME && Signs.listed("none", s.name) == 0;
            toldValue[told] = none ? -1 : Signs.span(s.start + 1, s.stop);
            return none || s.kind == Signs.STRING;
        }

        private static String choices(int property) {
            switch (property) {
                case SHOW: return "inline block none note float table row cell contents index ref term";
                case ALIGN: return "just left right middle";
                case FORM: return "arabic roman letter";
                default: return "no yes";
            }
        }

        /** 1 and the number of the COUNTER, 0 for none, -1 if it is one too much. */
        private int counterOf(long name) {
            if (Signs.listed("none", name) == 0) {
                return 0;
            }
            for (int k = 0; k < counters; k++) {
                if (counterNames[k] == name) {
                    return k + 1;
                }
            }
            if (counters == COUNTERS) {
                return -1;
            }
            counterNames[counters] = name;
            counters++;
            return counters;
        }
    }

    /** SOURCE: its ELEMENTS with their FIELDS, its ENTITIES, and its text as a stream of codes. */
    private static final class Source {
        static final int ELEMENTS = 500;
        static final int DEPTH = 20;
        static final int FIELDS = 6;
        static final int ENTITIES = 40;
        // codes of the stream: a byte, ENTITY and its number, OPEN or CLOSE and the ELEMENT
        static final int ENTITY = 256;
        static final int OPEN = 512;
        static final int CLOSE = 1024;
        // facts of an ELEMENT
        static final int PARENT = 0;
        static final int FIRST = 1;
        static final int BEHIND = 2;
        static final int FIELD = 3;
        static final int FIELD_COUNT = 4;
        static final int BEFORE = 5;
        static final int NTH = 6;
        static final int LAST_CHILD = 7;
        static final int OPENED = 8;
        static final int CLOSED = 9;
        static final int FILLED = 10;
        static final int FACTS = 11;

        final byte[] text;
        int length;
        final int[] stream;
        int streamLength;
        int elements;
        final long[] names;
        final int[] facts;
        int fields;
        final long[] fieldNames;
        final int[] fieldSpans;
        int entities;
        final long[] entityNames;
        final int[] entitySpans;
        int at;
        int open;
        int depth;
        int lastTop;
        long name;
        int signAt;
        int signStop;

        Source() {
            text = new byte[TEXT_LIMIT];
            stream = new int[TEXT_LIMIT];
            names = new long[ELEMENTS];
            facts = new int[ELEMENTS * FACTS];
            fieldNames = new long[ELEMENTS * FIELDS];
            fieldSpans = new int[ELEMENTS * FIELDS];
            entityNames = new long[ENTITIES];
            entitySpans = new int[ENTITIES];
        }

        int fact(int e, int which) {
            return facts[e * FACTS + which];
        }

        boolean isLast(int e) {
            int parent = fact(e, PARENT);
            return e == (parent < 0 ? lastTop : fact(parent, LAST_CHILD));
        }

        /** The number of the ELEMENT's FIELD of that NAME, -1 without. */
        int fieldOf(int e, long fieldName) {
            int first = facts[e * FACTS + FIELD];
            int stop = first + facts[e * FACTS + FIELD_COUNT];
            for (int f = first; f < stop; f++) {
                if (fieldNames[f] == fieldName) {
                    return f;
                }
            }
            return -1;
        }

        boolean fieldIs(int f, byte[] bytes, int from, int stop) {
            int first = Signs.spanFrom(fieldSpans[f]);
            int size = stop - from;
            if (Signs.spanStop(fieldSpans[f]) - first != size) {
                return false;
            }
            for (int i = 0; i < size; i++) {
                if (text[first + i] != bytes[from + i]) {
                    return false;
                }
            }
            return true;
        }

        /** Which word of a list with blanks between the FIELD's STRING is, -1 if none. */
        int fieldAmong(int f, String list) {
            int from = Signs.spanFrom(fieldSpans[f]);
            int size = Signs.spanStop(fieldSpans[f]) - from;
            int word = 0;
            int start = 0;
            for (int i = 0; i <= list.length(); i++) {
                if (i == list.length() || list.charAt(i) == ' ') {
                    boolean same = i - start == size;
                    for (int k = 0; k < size && same; k++) {
                        same = text[from + k] == list.charAt(start + k);
                    }
                    if (same) {
                        return word;
                    }
                    word++;
                    start = i + 1;
                }
            }
            return -1;
        }

        /** Reads the text that was put in; if it is BROKEN, at is its PLACE. */
        boolean read(int textLength) {
            length = textLength;
            streamLength = 0;
            elements = 0;
            fields = 0;
            entities = 0;
            at = 0;
            open = -1;
            depth = 0;
            lastTop = -1;
            for (int n = 0; n <= length && at < length; n++) {
                int c = text[at];
                boolean fine = c == 10 || (c >= 32 && c <= 126);
                if (c == '<' || c == '&') {
                    at++;
                    fine = c == '<' ? readMark() : readEntity();
                } else if (fine) {
                    pushText(c);
                    at++;
                }
                if (!fine) {
                    return false;
                }
            }
            return open < 0;
        }

        private boolean readMark() {
            if (at >= length) {
                return false;
            }
            if (text[at] == '!') {
                at++;
                return at < length && text[at] == '-' ? readComment() : readDefinition();
            }
            return text[at] == '/' ? readEnd() : readElement();
        }

        private boolean readComment() {
            at++;
            if (at >= length || text[at] != '-') {
                return false;
            }
            for (int i = at + 1; i + 2 < length; i++) {
                if (text[i] == '-' && text[i + 1] == '-' && text[i + 2] == '>') {
                    at = i + 3;
                    return true;
                }
            }
            at = length;
            return false;
        }

        private boolean readDefinition() {
            if (!readName()) {
                return false;
            }
            if (Signs.listed("lt amp", name) >= 0 || entityNamed() >= 0 || entities == ENTITIES) {
                at = signAt;
                return false;
            }
            skipBlanks();
            if (!readString()) {
                return false;
            }
            for (int i = signAt + 1; i < signStop; i++) {
                if (text[i] == '<' || text[i] == '&') {
                    at = signAt;
                    return false;
                }
            }
            entityNames[entities] = name;
            entitySpans[entities] = Signs.span(signAt + 1, signStop);
            entities++;
            return readCloser();
        }

        private int entityNamed() {
            for (int k = 0; k < entities; k++) {
                if (entityNames[k] == name) {
                    return k;
                }
            }
            return -1;
        }

        private boolean readEntity() {
            if (!readName()) {
                return false;
            }
            int byName = Signs.listed("lt amp", name);
            int entity = byName < 0 ? entityNamed() : -1;
            if (byName < 0 && entity < 0) {
                at = signAt;
                return false;
            }
            if (at >= length || text[at] != ';') {
                return false;
            }
            at++;
            if (byName >= 0) {
                pushText(byName == 0 ? '<' : '&');
            } else if (Signs.spanStop(entitySpans[entity]) > Signs.spanFrom(entitySpans[entity])) {
                pushText(ENTITY + entity);
            }
            return true;
        }

        private boolean readElement() {
            int first = at - 1;
            if (!readName()) {
                return false;
            }
            if (elements == ELEMENTS || depth == DEPTH) {
                at = signAt;
                return false;
            }
            int e = addElement(first);
            for (int n = 0; n <= FIELDS; n++) {
                boolean blank = skipBlanks();
                if (at >= length) {
                    return false;
                }
                if (text[at] == '>') {
                    at++;
                    open = e;
                    depth++;
                    return true;
                }
                if (text[at] == '/') {
                    at++;
                    return readCloser() && closeElement(e);
                }
                if (!blank || !readField(e)) {
                    return false;
                }
            }
            return false;
        }

        private int addElement(int first) {
            int e = elements;
            elements++;
            int row = e * FACTS;
            int before = open < 0 ? lastTop : fact(open, LAST_CHILD);
            names[e] = name;
            facts[row + PARENT] = open;
            facts[row + FIRST] = first;
            facts[row + FIELD] = fields;
            facts[row + FIELD_COUNT] = 0;
            facts[row + BEFORE] = before;
            facts[row + NTH] = before < 0 ? 1 : fact(before, NTH) + 1;
            facts[row + LAST_CHILD] = -1;
            facts[row + OPENED] = streamLength;
            facts[row + FILLED] = 0;
            if (open < 0) {
                lastTop = e;
            } else {
                facts[open * FACTS + LAST_CHILD] = e;
                facts[open * FACTS + FILLED] = 1;
            }
            stream[streamLength] = OPEN + e;
            streamLength++;
            return e;
        }

        private boolean closeElement(int e) {
            facts[e * FACTS + CLOSED] = streamLength;
            facts[e * FACTS + BEHIND] = at;
            stream[streamLength] = CLOSE + e;
            streamLength++;
            return true;
        }

        private boolean readField(int e) {
            if (!readName()) {
                return false;
            }
            if (fact(e, FIELD_COUNT) == FIELDS || fieldOf(e, name) >= 0) {
                at = signAt;
                return false;
            }
            skipBlanks();
            if (at >= length || text[at] != '=') {
                return false;
            }
            at++;
            skipBlanks();
            if (!readString()) {
                return false;
            }
            fieldNames[fields] = name;
            fieldSpans[fields] = Signs.span(signAt + 1, signStop);
            fields++;
            facts[e * FACTS + FIELD_COUNT]++;
            return true;
        }

        private boolean readEnd() {
            if (open < 0) {
                return false;
            }
            at++;
            if (!readName()) {
                return false;
            }
            if (name != names[open]) {
                at = signAt;
                return false;
            }
            if (!readCloser()) {
                return false;
            }
            closeElement(open);
            open = fact(open, PARENT);
            depth--;
            return true;
        }

        private boolean readCloser() {
            skipBlanks();
            if (at >= length || text[at] != '>') {
                return false;
            }
            at++;
            return true;
        }

        private boolean skipBlanks() {
            int start = at;
            at = Signs.behindBlanks(text, at, length);
            return at > start;
        }

        /** A NAME must stand here; at stays at its first byte if none can. */
        private boolean readName() {
            if (at >= length || !Signs.isSmall(text[at])) {
                return false;
            }
            int i = at;
            long code = 0;
            for (; i < length && Signs.nameDigit(text[i]) > 0; i++) {
                code = code * 37 + Signs.nameDigit(text[i]);
            }
            if (i - at > Signs.NAME_LIMIT) {
                return false;
            }
            name = code;
            signAt = at;
            at = i;
            return true;
        }

        private boolean readString() {
            if (at >= length || text[at] != '"') {
                return false;
            }
            for (int i = at + 1; i < length && text[i] >= 32 && text[i] <= 126; i++) {
                if (text[i] == '"') {
                    signAt = at;
                    signStop = i;
                    at = i + 1;
                    return true;
                }
            }
            return false;
        }

        private void pushText(int code) {
            stream[streamLength] = code;
            streamLength++;
            if (open >= 0) {
                facts[open * FACTS + FILLED] = 1;
            }
        }
    }

    /** What STYLE makes of the ELEMENTS of SOURCE: properties, parts played, VALUES, TITLES, ENTRIES. */
    private static final class Looks {
        // VALUES of show
        static final int SHOW_NONE = 2;
        static final int SHOW_NOTE = 3;
        static final int SHOW_FLOAT = 4;
        static final int SHOW_TABLE = 5;
        static final int SHOW_ROW = 6;
        static final int SHOW_CELL = 7;
        static final int SHOW_CONTENTS = 8;
        static final int SHOW_INDEX = 9;
        static final int SHOW_REF = 10;
        static final int SHOW_TERM = 11;
        // the part that an ELEMENT plays; those up to CELL have a LABEL and text of their own
        static final int INLINE = 0;
        static final int BLOCK = 1;
        static final int NOTE = 2;
        static final int CELL = 3;
        static final int TABLE = 4;
        static final int ROW = 5;
        static final int CONTENTS = 6;
        static final int INDEX = 7;
        static final int FLOAT = 8;
        static final int REF = 9;
        static final int NOTHING = 10;
        static final int HIDDEN = 11;
        // facts of an ELEMENT
        static final int SHOWN = 0;
        static final int FLOW = 1;
        static final int PART = 2;
        static final int VALUE = 3;
        static final int TITLE = 4;
        static final int ID = 5;
        static final int TARGET = 6;
        static final int AS = 7;
        static final int CELLS = 8;
        static final int ENTRY_FIELD = 9;
        static final int NEXT_TERM = 10;
        static final int LAST_TERM = 11;
        static final int AROUND = 12;
        static final int FACTS = 13;
        // what a REFERENCE is; 0 for ??
        static final int AS_PAGE = 1;
        static final int AS_LINE = 2;
        static final int AS_NUMBER = 3;
        static final int AS_TITLE = 4;

        static final int TITLE_LIMIT = 40;
        static final int ENTRY_LIMIT = 300;
        static final int CELL_LIMIT = 8;
        static final int ROMAN_FORM = 1;
        static final int LETTER_FORM = 2;
        static final int[] ROMAN = {1000, 900, 500, 400, 100, 90, 50, 40, 10, 9, 5, 4, 1};
        static final char[] ROMAN_SIGNS = {'m', ' ', 'c', 'm', 'd', ' ', 'c', 'd', 'c', ' ', 'x', 'c', 'l', ' ',
            'x', 'l', 'x', ' ', 'i', 'x', 'v', ' ', 'i', 'v', 'i', ' '};

        Source source;
        Style style;
        final int[] values;
        final int[] weights;
        final int[] fits;
        final int[] fitsAround;
        final int[] facts;
        final int[] counters;
        final byte[] titles;
        boolean titleBlank;
        int titleLength;
        final byte[] spelled;
        final int[] entryTerms;
        int entries;
        boolean tooManyEntries;

        Looks() {
            values = new int[Source.ELEMENTS * Style.PROPERTIES];
            weights = new int[Source.ELEMENTS * Style.PROPERTIES];
            fits = new int[Source.ELEMENTS];
            fitsAround = new int[Source.ELEMENTS];
            facts = new int[Source.ELEMENTS * FACTS];
            counters = new int[Style.COUNTERS + 1];
            titles = new byte[Source.ELEMENTS * TITLE_LIMIT];
            spelled = new byte[32];
            entryTerms = new int[ENTRY_LIMIT];
        }

        void refresh(Source newSource, Style newStyle) {
            source = newSource;
            style = newStyle;
            Arrays.fill(weights, 0, source.elements * Style.PROPERTIES, -1);
            for (int k = 0; k < style.selectors; k++) {
                fitSelector(k);
                tellBody(k);
            }
            inherit();
            for (int e = 0; e < source.elements; e++) {
                castPart(e);
            }
            countValues();
            for (int e = 0; e < source.elements; e++) {
                makeTitle(e);
                facts[e * FACTS + ID] = source.fieldOf(e, Signs.nameCode("id"));
            }
            for (int e = 0; e < source.elements; e++) {
                findTarget(e);
            }
            findEntries();
        }

        int fact(int e, int which) {
            return facts[e * FACTS + which];
        }

        /** A property of an ELEMENT, or of the ROOT, which is -1. */
        int property(int e, int property) {
            return e < 0 ? Style.BEGINNING[property] : values[e * Style.PROPERTIES + property];
        }

        int told(int e, int property) {
            int value = property(e, property);
            if (property == Style.LABEL) {
                return value < 0 ? 0 : 1;
            }
            return value;
        }

        boolean hyphensFor(Texts texts, int p) {
            return property(texts.fact(p, Texts.OWNER), Style.HYPHENS) == 1;
        }

        boolean bearsText(int e) {
            return fact(e, PART) <= CELL;
        }

        boolean isBlock(int e) {
            int part = fact(e, PART);
            return part == BLOCK || part == TABLE || part == CONTENTS || part == INDEX;
        }

        /** Bit s of fits tells that the STEPS up to s fit an ELEMENT, of fitsAround: one that it is in. */
        private void fitSelector(int k) {
            int row = k * Style.SELECTOR_FACTS;
            int first = style.selector[row + Style.FIRST_STEP];
            int steps = style.selector[row + Style.STEP_COUNT];
            for (int e = 0; e < source.elements; e++) {
                int parent = source.fact(e, Source.PARENT);
                int before = source.fact(e, Source.BEFORE);
                int direct = parent < 0 ? 0 : fits[parent];
                int around = parent < 0 ? 0 : fitsAround[parent] | direct;
                int beside = before < 0 ? 0 : fits[before];
                int bits = 0;
                for (int s = 0; s < steps; s++) {
                    int link = style.step[(first + s) * Style.STEP_FACTS + Style.LINK];
                    int others = link == '>' ? direct : link == '/' ? around : beside;
                    boolean led = s == 0 || (others >> (s - 1) & 1) == 1;
                    if (led && stepFits(first + s, e)) {
                        bits |= 1 << s;
                    }
                }
                fits[e] = bits;
                fitsAround[e] = around;
            }
        }

        private boolean stepFits(int s, int e) {
            if (style.stepNames[s] != 0 && style.stepNames[s] != source.names[e]) {
                return false;
            }
            int first = style.step[s * Style.STEP_FACTS + Style.CONDITION];
            int count = style.step[s * Style.STEP_FACTS + Style.CONDITION_COUNT];
            for (int c = first; c < first + count; c++) {
                if (!conditionFits(c, e)) {
                    return false;
                }
            }
            return true;
        }

        private boolean conditionFits(int c, int e) {
            int row = c * Style.CONDITION_FACTS;
            int from = style.condition[row + Style.FROM];
            switch (style.condition[row + Style.KIND]) {
                case Style.IS_FIRST: return source.fact(e, Source.NTH) == 1;
                case Style.IS_LAST: return source.isLast(e);
                case Style.IS_EMPTY: return source.fact(e, Source.FILLED) == 0;
                case Style.IS_NTH: return source.fact(e, Source.NTH) == from;
                case Style.IS_NOT: return source.names[e] != style.conditionNames[c];
                case Style.HAS_FIELD: return source.fieldOf(e, style.conditionNames[c]) >= 0;
                default:
                    int f = source.fieldOf(e, style.conditionNames[c]);
                    return f >= 0 && source.fieldIs(f, style.text, from, style.condition[row + Style.STOP]);
            }
        }

        private void tellBody(int k) {
            int row = k * Style.SELECTOR_FACTS;
            int weight = style.selector[row + Style.WEIGHT];
            int last = style.selector[row + Style.STEP_COUNT] - 1;
            for (int e = 0; e < source.elements; e++) {
                if ((fits[e] >> last & 1) == 1) {
                    for (int t = style.selector[row + Style.BODY]; t < style.selector[row + Style.BODY_STOP]; t++) {
                        int at = e * Style.PROPERTIES + style.toldProperty[t];
                        if (weight >= weights[at]) {
                            weights[at] = weight;
                            values[at] = style.toldValue[t];
                        }
                    }
                }
            }
        }

        private void inherit() {
            for (int e = 0; e < source.elements; e++) {
                int parent = source.fact(e, Source.PARENT);
                for (int q = 0; q < Style.PROPERTIES; q++) {
                    int at = e * Style.PROPERTIES + q;
                    if (weights[at] < 0) {
                        values[at] = Style.INHERITED.charAt(q) == '1' ? property(parent, q) : Style.BEGINNING[q];
                    } else if (q == Style.SIZE && values[at] < 0) {
                        int size = property(parent, q) * -values[at] / 100;
                        values[at] = Math.min(Math.max(size, Style.LOW[q]), Style.HIGH[q]);
                    }
                }
            }
        }

        /** Says whether the ELEMENT is SHOWN and IN FLOW, and what it is there; those it is in are done. */
        private void castPart(int e) {
            int row = e * FACTS;
            int parent = source.fact(e, Source.PARENT);
            int show = property(e, Style.SHOW);
            int around = parent < 0 ? INLINE : fact(parent, PART);
            boolean shown = show != SHOW_NONE && around < CONTENTS;
            int part = INLINE;
            facts[row + CELLS] = 0;
            // the BLOCK that it is in, -1 for ROOT
            facts[row + AROUND] = parent < 0 || isBlock(parent) ? parent : fact(parent, AROUND);
            if (around == TABLE) {
                shown = shown && show == SHOW_ROW;
                part = ROW;
            } else if (around == ROW) {
                shown = shown && show == SHOW_CELL && fact(parent, CELLS) < CELL_LIMIT;
                facts[parent * FACTS + CELLS] += shown ? 1 : 0;
                part = CELL;
            }
            boolean deep = parent >= 0 && (fact(parent, FLOW) == 0 || around == NOTE || around == CELL);
            if (part == INLINE) {
                part = deep ? partInNote(show) : partInFlow(show);
            }
            facts[row + SHOWN] = shown ? 1 : 0;
            facts[row + FLOW] = shown && !deep ? 1 : 0;
            facts[row + PART] = shown ? part : HIDDEN;
        }

        private static int partInFlow(int show) {
            switch (show) {
                case 1: return BLOCK;
                case SHOW_NOTE: return NOTE;
                case SHOW_FLOAT: return FLOAT;
                case SHOW_TABLE: return TABLE;
                case SHOW_CONTENTS: return CONTENTS;
                case SHOW_INDEX: return INDEX;
                case SHOW_REF: return REF;
                default: return INLINE;
            }
        }

        private static int partInNote(int show) {
            if (show == SHOW_REF) {
                return REF;
            }
            return show == SHOW_CONTENTS || show == SHOW_INDEX || show == SHOW_FLOAT ? NOTHING : INLINE;
        }

        private void countValues() {
            Arrays.fill(counters, 0);
            for (int e = 0; e < source.elements; e++) {
                int step = property(e, Style.STEP);
                int value = 0;
                if (fact(e, SHOWN) == 1) {
                    counters[property(e, Style.RESET)] = 0;
                    counters[step]++;
                    value = step == 0 ? 0 : counters[step];
                }
                facts[e * FACTS + VALUE] = value;
            }
        }

        private void makeTitle(int e) {
            titleLength = 0;
            titleBlank = false;
            int at = e * TITLE_LIMIT;
            int here = e;
            if (fact(e, SHOWN) == 1) {
                addLabel(at, e);
                int stop = source.fact(e, Source.CLOSED);
                for (int i = source.fact(e, Source.OPENED) + 1; i < stop && titleLength < TITLE_LIMIT; i++) {
                    int code = source.stream[i];
                    if (code >= Source.CLOSE) {
                        here = source.fact(code - Source.CLOSE, Source.PARENT);
                    } else if (code >= Source.OPEN) {
                        int inner = code - Source.OPEN;
                        if (fact(inner, SHOWN) == 0 || property(inner, Style.SHOW) == SHOW_NOTE) {
                            i = source.fact(inner, Source.CLOSED);
                        } else {
                            here = inner;
                            addLabel(at, inner);
                        }
                    } else if (bearsText(here)) {
                        addCode(at, code);
                    }
                }
            }
            if (titleLength > 0 && titles[at + titleLength - 1] == ' ') {
                titleLength--;
            }
            facts[e * FACTS + TITLE] = titleLength;
        }

        private void addCode(int at, int code) {
            if (code < Source.ENTITY) {
                addToTitle(at, code);
                return;
            }
            int span = source.entitySpans[code - Source.ENTITY];
            for (int i = Signs.spanFrom(span); i < Signs.spanStop(span) && titleLength < TITLE_LIMIT; i++) {
                addToTitle(at, source.text[i]);
            }
        }

        private void addLabel(int at, int e) {
            int label = property(e, Style.LABEL);
            if (label < 0 || !bearsText(e)) {
                return;
            }
            for (int i = Signs.spanFrom(label); i < Signs.spanStop(label); i++) {
                if (style.text[i] == '#') {
                    int length = spell(fact(e, VALUE), property(e, Style.FORM));
                    for (int k = 0; k < length; k++) {
                        addToTitle(at, spelled[k]);
                    }
                } else {
                    addToTitle(at, style.text[i]);
                }
            }
        }

        private void addToTitle(int at, int c) {
            if (Signs.isBlank(c)) {
                titleBlank = titleLength > 0;
                return;
            }
            if (titleBlank && titleLength < TITLE_LIMIT) {
                titles[at + titleLength] = ' ';
                titleLength++;
            }
            titleBlank = false;
            if (titleLength < TITLE_LIMIT) {
                titles[at + titleLength] = (byte) c;
                titleLength++;
            }
        }

        /** Writes a number in its form into spelled; answers how many bytes. */
        int spell(int value, int form) {
            int length = 0;
            int left = value;
            if (form == ROMAN_FORM && value >= 1 && value <= 3999) {
                for (int k = 0; k < ROMAN.length; k++) {
                    for (; left >= ROMAN[k]; left -= ROMAN[k]) {
                        spelled[length] = (byte) ROMAN_SIGNS[2 * k];
                        spelled[length + 1] = (byte) ROMAN_SIGNS[2 * k + 1];
                        length += ROMAN_SIGNS[2 * k + 1] == ' ' ? 1 : 2;
                    }
                }
                return length;
            }
            boolean letters = form == LETTER_FORM && value >= 1;
            int base = letters ? 26 : 10;
            for (int n = 0; n < 10 && (n == 0 || left > 0); n++) {
                // letters have no zero: z is followed by aa
                left -= letters ? 1 : 0;
                spelled[length] = (byte) (left % base + (letters ? 'a' : '0'));
                length++;
                left /= base;
            }
            for (int i = 0; i < length / 2; i++) {
                byte kept = spelled[i];
                spelled[i] = spelled[length - 1 - i];
                spelled[length - 1 - i] = kept;
            }
            return length;
        }

        /** The ELEMENT that a ref or a NOTE speaks of, -1 if it is not there or not IN FLOW. */
        private void findTarget(int e) {
            int row = e * FACTS;
            int part = fact(e, PART);
            facts[row + TARGET] = -1;
            facts[row + AS] = 0;
            if (part != REF && part != NOTE) {
                return;
            }
            int to = source.fieldOf(e, Signs.nameCode(part == REF ? "to" : "of"));
            int as = part == REF ? source.fieldOf(e, Signs.nameCode("as")) : -1;
            if (to >= 0) {
                int span = source.fieldSpans[to];
                int first = elementWithId(Signs.spanFrom(span), Signs.spanStop(span));
                facts[row + TARGET] = first >= 0 && fact(first, FLOW) == 1 ? first : -1;
            }
            if (as >= 0) {
                facts[row + AS] = 1 + source.fieldAmong(as, "page line number title side");
            }
        }

        private int elementWithId(int from, int stop) {
            for (int e = 0; e < source.elements; e++) {
                int id = fact(e, ID);
                if (id >= 0 && source.fieldIs(id, source.text, from, stop)) {
                    return e;
                }
            }
            return -1;
        }

        private void findEntries() {
            entries = 0;
            tooManyEntries = false;
            for (int e = 0; e < source.elements; e++) {
                if (fact(e, FLOW) == 1 && property(e, Style.SHOW) == SHOW_TERM) {
                    facts[e * FACTS + ENTRY_FIELD] = source.fieldOf(e, Signs.nameCode("at"));
                    facts[e * FACTS + NEXT_TERM] = -1;
                    facts[e * FACTS + LAST_TERM] = e;
                    if (entryLength(e) > 0) {
                        addEntry(e);
                    }
                }
            }
        }

        /** Terms of one ENTRY are a chain behind the first of them, and the first ones stand in order. */
        private void addEntry(int e) {
            int low = 0;
            int high = entries;
            for (int n = 0; n <= ENTRY_LIMIT && low < high; n++) {
                int middle = (low + high) / 2;
                int order = compareEntries(entryTerms[middle], e);
                if (order == 0) {
                    int first = entryTerms[middle];
                    facts[fact(first, LAST_TERM) * FACTS + NEXT_TERM] = e;
                    facts[first * FACTS + LAST_TERM] = e;
                    return;
                }
                if (order < 0) {
                    low = middle + 1;
                } else {
                    high = middle;
                }
            }
            if (entries == ENTRY_LIMIT) {
                tooManyEntries = true;
                return;
            }
            System.arraycopy(entryTerms, low, entryTerms, low + 1, entries - low);
            entryTerms[low] = e;
            entries++;
        }

        int entryLength(int e) {
            int f = fact(e, ENTRY_FIELD);
            if (f < 0) {
                return fact(e, TITLE);
            }
            return Signs.spanStop(source.fieldSpans[f]) - Signs.spanFrom(source.fieldSpans[f]);
        }

        int entryByte(int e, int i) {
            int f = fact(e, ENTRY_FIELD);
            return f < 0 ? titles[e * TITLE_LIMIT + i] : source.text[Signs.spanFrom(source.fieldSpans[f]) + i];
        }

        private int compareEntries(int a, int b) {
            int lengthA = entryLength(a);
            int lengthB = entryLength(b);
            int shorter = Math.min(lengthA, lengthB);
            int exact = 0;
            for (int i = 0; i < shorter; i++) {
                int byteA = entryByte(a, i);
                int byteB = entryByte(b, i);
                int order = Integer.compare(Hyphens.small(byteA), Hyphens.small(byteB));
                if (order != 0) {
                    return order;
                }
                if (exact == 0) {
                    exact = Integer.compare(byteA, byteB);
                }
            }
            return lengthA == lengthB ? exact : Integer.compare(lengthA, lengthB);
        }
    }

    /** The PARAGRAPHS of a ROUND: their bytes, BREAKS and lines, and the rows and tables of their cells. */
    private static final class Texts {
        static final int BYTES = 24000;
        static final int PARAGRAPHS = 1200;
        static final int BREAKS = 600;
        static final int LEAST_WIDTH = 1000;
        // kinds of BREAKS
        static final int GLUE = 0;
        static final int HYPHEN = 1;
        static final int DASH = 2;
        static final int LAST = 3;
        // facts of a PARAGRAPH
        static final int START = 0;
        static final int STOP = 1;
        static final int BREAK = 2;
        static final int BREAK_COUNT = 3;
        static final int LINE = 4;
        static final int LINE_COUNT = 5;
        static final int WIDTH = 6;
        static final int LEFT = 7;
        static final int OWNER = 8;
        static final int LEAD = 9;
        static final int INDENT = 10;
        static final int ALIGN = 11;
        static final int TOLERANCE = 12;
        static final int TOLD = 13;
        static final int ROW = 14;
        static final int COLUMN = 15;
        static final int GAP = 16;
        static final int HASH = 17;
        static final int FACTS = 18;
        // facts of a row
        static final int ROW_ELEMENT = 0;
        static final int ROW_TABLE = 1;
        static final int ROW_CELLS = 2;
        static final int ROW_FIRST = 3;
        static final int ROW_STOP = 4;
        static final int ROW_FACTS = 5;
        // facts of a table
        static final int TABLE_ELEMENT = 0;
        static final int TABLE_LEFT = 1;
        static final int TABLE_WIDTH = 2;
        static final int TABLE_FIRST = 3;
        static final int TABLE_STOP = 4;
        static final int TABLE_FACTS = 5;

        final byte[] bytes;
        final int[] sizes;
        int length;
        int flowLength;
        final int[] facts;
        final long[] costs;
        int paragraphs;
        int flowParagraphs;
        // place * 4 + kind; the width ahead of it in its PARAGRAPH; that of its GLUE or of its -
        final int[] breakAt;
        final long[] breakAhead;
        final int[] breakWidth;
        int breaks;
        final int[] lineEnds;
        int lines;
        final int[] rows;
        int rowCount;
        final int[] tables;
        int tableCount;
        final long[] least;
        final long[] wish;

        Texts() {
            bytes = new byte[BYTES];
            sizes = new int[BYTES];
            facts = new int[PARAGRAPHS * FACTS];
            costs = new long[PARAGRAPHS];
            breakAt = new int[BYTES];
            breakAhead = new long[BYTES];
            breakWidth = new int[BYTES];
            lineEnds = new int[BYTES];
            // one row more: it is filled before it is known to have text
            rows = new int[(Source.ELEMENTS + 1) * ROW_FACTS];
            tables = new int[(Source.ELEMENTS + 1) * TABLE_FACTS];
            least = new long[Looks.CELL_LIMIT];
            wish = new long[Looks.CELL_LIMIT];
        }

        void clear() {
            length = 0;
            flowLength = 0;
            paragraphs = 0;
            flowParagraphs = 0;
            breaks = 0;
            lines = 0;
            rowCount = 0;
            tableCount = 0;
        }

        int fact(int p, int which) {
            return facts[p * FACTS + which];
        }

        /** BREAK k of a PARAGRAPH, from 1 on; its beginning, 0, is as a BREAK that is no GLUE. */
        int kindOf(int p, int k) {
            return k == 0 ? LAST : breakAt[facts[p * FACTS + BREAK] + k - 1] & 3;
        }

        /** Where the text ahead of a BREAK ends. */
        int placeOf(int p, int k) {
            return k == 0 ? facts[p * FACTS + START] : breakAt[facts[p * FACTS + BREAK] + k - 1] >> 2;
        }

        /** Where the text behind a BREAK begins. */
        int placeBehind(int p, int k) {
            return placeOf(p, k) + (kindOf(p, k) == GLUE ? 1 : 0);
        }

        long widthAhead(int p, int k) {
            return k == 0 ? 0 : breakAhead[facts[p * FACTS + BREAK] + k - 1];
        }

        /** The width of the GLUE at a BREAK, 0 if it is none. */
        int glueAt(int p, int k) {
            return kindOf(p, k) == GLUE ? breakWidth[facts[p * FACTS + BREAK] + k - 1] : 0;
        }

        /** N of the line between two BREAKS. */
        long lineWidth(int p, int from, int to) {
            int base = facts[p * FACTS + BREAK] - 1;
            long width = breakAhead[base + to] + ((breakAt[base + to] & 3) == HYPHEN ? breakWidth[base + to] : 0);
            if (from > 0) {
                width -= breakAhead[base + from] + ((breakAt[base + from] & 3) == GLUE ? breakWidth[base + from] : 0);
            }
            return width;
        }

        /** L of a line that goes from a BREAK. */
        int lineRoom(int p, int from) {
            int width = fact(p, WIDTH);
            return from == 0 ? Math.max(LEAST_WIDTH, width - fact(p, INDENT)) : width;
        }

        int lineStart(int p, int index) {
            return index == 0 ? 0 : lineEnds[fact(p, LINE) + index - 1];
        }

        int lineStop(int p, int index) {
            return lineEnds[fact(p, LINE) + index];
        }

        int gluesIn(int p, int index) {
            int glues = 0;
            for (int k = lineStart(p, index) + 1; k < lineStop(p, index); k++) {
                glues += kindOf(p, k) == GLUE ? 1 : 0;
            }
            return glues;
        }

        /** Where a line of a PARAGRAPH begins, from the column's left. */
        int lineLeft(int p, int index) {
            int from = lineStart(p, index);
            int left = fact(p, LEFT) + (index == 0 ? fact(p, INDENT) : 0);
            int align = fact(p, ALIGN);
            long free = lineRoom(p, from) - lineWidth(p, from, lineStop(p, index));
            if (align < 2 || free <= 0) {
                return left;
            }
            return left + (int) (align == 2 ? free : free / 2);
        }

        void layTables() {
            for (int t = 0; t < tableCount; t++) {
                int columns = measureColumns(t);
                long width = tables[t * TABLE_FACTS + TABLE_WIDTH];
                long leasts = 0;
                long wishes = 0;
                for (int c = 0; c < columns; c++) {
                    leasts += least[c];
                    wishes += wish[c];
                }
                for (int c = 0; c < columns; c++) {
                    if (wishes <= width) {
                        least[c] = wish[c] + (width - wishes) / columns;
                    } else if (leasts <= width) {
                        least[c] += Math.floorDiv((width - leasts) * (wish[c] - least[c]), wishes - leasts);
                    } else {
                        least[c] = width * least[c] / leasts;
                    }
                }
                placeCells(t, columns);
            }
        }

        /** Finds LEAST and WISH of a table's columns; answers how many there are. */
        private int measureColumns(int t) {
            int columns = 0;
            Arrays.fill(least, LEAST_WIDTH);
            Arrays.fill(wish, LEAST_WIDTH);
            for (int r = tables[t * TABLE_FACTS + TABLE_FIRST]; r < tables[t * TABLE_FACTS + TABLE_STOP]; r++) {
                columns = Math.max(columns, rows[r * ROW_FACTS + ROW_CELLS]);
                for (int p = rows[r * ROW_FACTS + ROW_FIRST]; p < rows[r * ROW_FACTS + ROW_STOP]; p++) {
                    int c = fact(p, COLUMN);
                    int end = fact(p, BREAK_COUNT);
                    wish[c] = Math.max(wish[c], lineWidth(p, 0, end));
                    for (int k = 1; k <= end; k++) {
                        least[c] = Math.max(least[c], lineWidth(p, k - 1, k));
                    }
                }
            }
            return columns;
        }

        /** The widths of the columns stand in least; what is left of the table's goes to the first ones. */
        private void placeCells(int t, int columns) {
            long rest = tables[t * TABLE_FACTS + TABLE_WIDTH];
            for (int c = 0; c < columns; c++) {
                rest -= least[c];
            }
            long left = tables[t * TABLE_FACTS + TABLE_LEFT];
            for (int c = 0; c < columns; c++) {
                least[c] += c < rest ? 1 : 0;
                wish[c] = left;
                left += least[c];
            }
            for (int r = tables[t * TABLE_FACTS + TABLE_FIRST]; r < tables[t * TABLE_FACTS + TABLE_STOP]; r++) {
                for (int p = rows[r * ROW_FACTS + ROW_FIRST]; p < rows[r * ROW_FACTS + ROW_STOP]; p++) {
                    int c = fact(p, COLUMN);
                    facts[p * FACTS + WIDTH] = (int) Math.max(LEAST_WIDTH, least[c]);
                    facts[p * FACTS + LEFT] = (int) wish[c];
                }
            }
        }

        void hashAll() {
            for (int p = 0; p < paragraphs; p++) {
                int hash = fact(p, WIDTH) * 31 + fact(p, BREAK_COUNT);
                for (int i = fact(p, START); i < fact(p, STOP); i++) {
                    hash = hash * 31 + bytes[i];
                }
                facts[p * FACTS + HASH] = hash;
            }
        }

        boolean hasLike(Texts other, int p) {
            for (int q = 0; q < paragraphs; q++) {
                if (fact(q, HASH) == other.fact(p, HASH) && sameAs(q, other, p)) {
                    return true;
                }
            }
            return false;
        }

        private boolean sameAs(int q, Texts other, int p) {
            boolean same = fact(q, STOP) - fact(q, START) == other.fact(p, STOP) - other.fact(p, START)
                    && fact(q, BREAK_COUNT) == other.fact(p, BREAK_COUNT) && fact(q, WIDTH) == other.fact(p, WIDTH);
            for (int f = LEAD; f <= TOLERANCE; f++) {
                same = same && fact(q, f) == other.fact(p, f);
            }
            int shift = other.fact(p, START) - fact(q, START);
            for (int i = fact(q, START); i < fact(q, STOP) && same; i++) {
                same = bytes[i] == other.bytes[i + shift] && sizes[i] == other.sizes[i + shift];
            }
            for (int k = 1; k <= fact(q, BREAK_COUNT) && same; k++) {
                same = placeOf(q, k) + shift == other.placeOf(p, k) && kindOf(q, k) == other.kindOf(p, k);
            }
            return same;
        }
    }

    /** Writes the text of a ROUND: the PARAGRAPHS of FLOW, then those of NOTES. */
    private static final class Writer {
        final int[] takenPage;
        final int[] takenLine;
        // the NUMBER of the line of an end, -1 if it is none other than that of the beginning
        final int[] takenEnd;
        Looks looks;
        Source source;
        Texts texts;
        Pages pages;
        int hereSize;
        int owner;
        int left;
        int right;
        int gap;
        int column;
        int start;
        boolean blank;
        int blankSize;
        boolean over;

        Writer() {
            takenPage = new int[Source.ELEMENTS];
            takenLine = new int[Source.ELEMENTS];
            takenEnd = new int[Source.ELEMENTS];
        }

        void forget() {
            Arrays.fill(takenPage, 0);
            Arrays.fill(takenLine, 0);
            Arrays.fill(takenEnd, -1);
        }

        void take(Pages found) {
            for (int e = 0; e < source.elements; e++) {
                takenPage[e] = found.pageOf(e);
                takenLine[e] = found.beginNumber(e);
                takenEnd[e] = found.finishNumber(e);
            }
        }

        /** Writes FLOW; over tells then whether it was more than may be. */
        void write(Looks newLooks, Pages newPages) {
            looks = newLooks;
            source = newLooks.source;
            pages = newPages;
            texts = newPages.texts;
            texts.clear();
            pages.clear();
            over = false;
            owner = -1;
            left = 0;
            right = 0;
            gap = 0;
            column = -1;
            start = 0;
            blank = false;
            moveTo(-1);
            walk(0, source.streamLength);
            endParagraph(0);
            texts.flowLength = texts.length;
            texts.flowParagraphs = texts.paragraphs;
        }

        /** Writes a NOTE behind FLOW and the NOTES before it. */
        void writeNote(int n) {
            int e = pages.noteFact(n, Pages.CALLER);
            int size = looks.property(e, Style.SIZE);
            owner = e;
            pages.noteFacts[n * Pages.NOTE_FACTS + Pages.TEXT] = texts.paragraphs;
            putNumber(n + 1, 0, size);
            put(' ', size);
            if (source.fieldOf(e, Signs.nameCode("of")) >= 0) {
                putLines(looks.fact(e, Looks.TARGET), size);
                put(' ', size);
            }
            moveTo(e);
            putLabel(e);
            walk(source.fact(e, Source.OPENED) + 1, source.fact(e, Source.CLOSED));
            endParagraph(0);
        }

        private void walk(int from, int to) {
            for (int i = from; i < to && !over; i++) {
                int code = source.stream[i];
                if (code >= Source.CLOSE) {
                    leave(code - Source.CLOSE);
                } else if (code >= Source.OPEN) {
                    int e = code - Source.OPEN;
                    int part = looks.fact(e, Looks.PART);
                    pages.mark(e, Pages.BEGIN, texts.length);
                    if (part == Looks.REF) {
                        putReference(e);
                    } else if (part == Looks.NOTE) {
                        callNote(e);
                    } else if (part == Looks.CONTENTS) {
                        putContents(e);
                    } else if (part == Looks.INDEX) {
                        putIndex(e);
                    } else if (part == Looks.FLOAT) {
                        over = !pages.addFloat(e, looks.property(e, Style.HEIGHT));
                    } else if (part <= Looks.ROW) {
                        enter(e, part);
                    }
                    // what is in these does not stand here
                    if (part == Looks.NOTE || part > Looks.ROW) {
                        pages.mark(e, Pages.FINISH, texts.length);
                        i = source.fact(e, Source.CLOSED);
                    }
                } else if (hereSize > 0) {
                    putCode(code);
                }
            }
        }

        private void putCode(int code) {
            if (code < Source.ENTITY) {
                put(code, hereSize);
                return;
            }
            int span = source.entitySpans[code - Source.ENTITY];
            for (int i = Signs.spanFrom(span); i < Signs.spanStop(span) && !over; i++) {
                put(source.text[i], hereSize);
            }
        }

        /** Text that stands directly in the ELEMENT is of its size, or none if the size here is 0. */
        private void moveTo(int e) {
            hereSize = e < 0 || looks.bearsText(e) ? looks.property(e, Style.SIZE) : 0;
        }

        private void enter(int e, int part) {
            if (part == Looks.BLOCK || part == Looks.TABLE) {
                beginBlock(e);
            }
            if (part == Looks.TABLE) {
                int row = texts.tableCount * Texts.TABLE_FACTS;
                texts.tables[row + Texts.TABLE_ELEMENT] = e;
                texts.tables[row + Texts.TABLE_LEFT] = left;
                texts.tables[row + Texts.TABLE_WIDTH] = widthHere(0);
                texts.tables[row + Texts.TABLE_FIRST] = texts.rowCount;
            } else if (part == Looks.ROW) {
                int row = texts.rowCount * Texts.ROW_FACTS;
                texts.rows[row + Texts.ROW_ELEMENT] = e;
                texts.rows[row + Texts.ROW_TABLE] = texts.tableCount;
                texts.rows[row + Texts.ROW_CELLS] = 0;
                texts.rows[row + Texts.ROW_FIRST] = texts.paragraphs;
            } else if (part == Looks.CELL) {
                int row = texts.rowCount * Texts.ROW_FACTS;
                column = texts.rows[row + Texts.ROW_CELLS];
                texts.rows[row + Texts.ROW_CELLS]++;
                owner = e;
            }
            moveTo(e);
            putLabel(e);
        }

        private void leave(int e) {
            int part = looks.fact(e, Looks.PART);
            if (part == Looks.CELL) {
                endParagraph(0);
                column = -1;
            } else if (part == Looks.ROW) {
                int row = texts.rowCount * Texts.ROW_FACTS;
                texts.rows[row + Texts.ROW_STOP] = texts.paragraphs;
                texts.rowCount += texts.paragraphs > texts.rows[row + Texts.ROW_FIRST] ? 1 : 0;
            } else if (part == Looks.BLOCK || part == Looks.TABLE) {
                endBlock(e);
            }
            if (part == Looks.TABLE) {
                int row = texts.tableCount * Texts.TABLE_FACTS;
                texts.tables[row + Texts.TABLE_STOP] = texts.rowCount;
                texts.tableCount++;
            }
            moveTo(source.fact(e, Source.PARENT));
            pages.mark(e, Pages.FINISH, texts.length);
        }

        private void beginBlock(int e) {
            endParagraph(0);
            owner = e;
            left += looks.property(e, Style.LEFT);
            right += looks.property(e, Style.RIGHT);
            gap = Math.max(gap, looks.property(e, Style.ABOVE));
        }

        private void endBlock(int e) {
            endParagraph(0);
            owner = looks.fact(e, Looks.AROUND);
            left -= looks.property(e, Style.LEFT);
            right -= looks.property(e, Style.RIGHT);
            gap = Math.max(gap, looks.property(e, Style.BELOW));
        }

        private int widthHere(int moved) {
            int width = pages.page[Style.PAGE_WIDTH] - left - right - moved;
            return width < Texts.LEAST_WIDTH ? Texts.LEAST_WIDTH : width;
        }

        private void putLabel(int e) {
            int label = looks.property(e, Style.LABEL);
            if (label < 0 || hereSize == 0) {
                return;
            }
            for (int i = Signs.spanFrom(label); i < Signs.spanStop(label) && !over; i++) {
                int c = looks.style.text[i];
                if (c == '#') {
                    putNumber(looks.fact(e, Looks.VALUE), looks.property(e, Style.FORM), hereSize);
                } else {
                    put(c, hereSize);
                }
            }
        }

        private void callNote(int e) {
            over = !pages.addNote(e);
            putNumber(pages.notes, 0, looks.property(source.fact(e, Source.PARENT), Style.SIZE));
        }

        private void putReference(int e) {
            int size = looks.property(e, Style.SIZE);
            int target = looks.fact(e, Looks.TARGET);
            int as = target < 0 ? 0 : looks.fact(e, Looks.AS);
            if (as == Looks.AS_PAGE) {
                putNumber(takenPage[target], 0, size);
            } else if (as == Looks.AS_LINE) {
                putNumber(takenLine[target], 0, size);
            } else if (as == Looks.AS_NUMBER) {
                putNumber(looks.fact(target, Looks.VALUE), looks.property(target, Style.FORM), size);
            } else if (as == Looks.AS_TITLE) {
                putTitle(target, size);
            } else {
                putWord(as == 0 ? "??" : target < e ? "above" : "below", size);
            }
        }

        /** LINES of an ELEMENT. */
        private void putLines(int target, int size) {
            if (target < 0) {
                putWord("??", size);
                return;
            }
            putNumber(takenLine[target], 0, size);
            if (takenEnd[target] >= 0) {
                put('-', size);
                putNumber(takenEnd[target], 0, size);
            }
        }

        private void putContents(int contents) {
            int size = looks.property(contents, Style.SIZE);
            beginBlock(contents);
            for (int e = 0; e < source.elements && !over; e++) {
                int depth = looks.property(e, Style.DEPTH);
                if (depth > 0 && looks.fact(e, Looks.FLOW) == 1) {
                    putTitle(e, size);
                    put(' ', size);
                    putNumber(takenPage[e], 0, size);
                    endParagraph(10000 * (depth - 1));
                }
            }
            endBlock(contents);
        }

        private void putIndex(int index) {
            int size = looks.property(index, Style.SIZE);
            beginBlock(index);
            for (int k = 0; k < looks.entries && !over; k++) {
                int first = looks.entryTerms[k];
                for (int i = 0; i < looks.entryLength(first); i++) {
                    put(looks.entryByte(first, i), size);
                }
                putPages(first, size);
                endParagraph(0);
            }
            endBlock(index);
        }

        /** The pages of an ENTRY's terms rise along their chain, since terms begin in order. */
        private void putPages(int firstTerm, int size) {
            int term = firstTerm;
            for (int n = 0; n < Source.ELEMENTS && term >= 0; n++) {
                int first = takenPage[term];
                int last = first;
                for (int m = 0; m < Source.ELEMENTS && term >= 0 && takenPage[term] <= last + 1; m++) {
                    last = takenPage[term];
                    term = looks.fact(term, Looks.NEXT_TERM);
                }
                putWord(", ", size);
                putNumber(first, 0, size);
                if (last > first) {
                    putWord(last > first + 1 ? "-" : ", ", size);
                    putNumber(last, 0, size);
                }
            }
        }

        private void putTitle(int e, int size) {
            for (int i = 0; i < looks.fact(e, Looks.TITLE); i++) {
                put(looks.titles[e * Looks.TITLE_LIMIT + i], size);
            }
        }

        private void putNumber(int value, int form, int size) {
            int length = looks.spell(value, form);
            for (int i = 0; i < length; i++) {
                put(looks.spelled[i], size);
            }
        }

        private void putWord(String word, int size) {
            for (int i = 0; i < word.length(); i++) {
                put(word.charAt(i), size);
            }
        }

        /** Blanks wait for the next other byte, since none may stand at an end. */
        private void put(int c, int size) {
            if (c == 10 || c == 32) {
                if (!blank && texts.length > start) {
                    blank = true;
                    blankSize = size;
                }
                return;
            }
            if (texts.length + (blank ? 2 : 1) > Texts.BYTES) {
                over = true;
                return;
            }
            if (blank) {
                texts.bytes[texts.length] = ' ';
                texts.sizes[texts.length] = blankSize;
                texts.length++;
                blank = false;
            }
            texts.bytes[texts.length] = (byte) c;
            texts.sizes[texts.length] = size;
            texts.length++;
        }

        private void endParagraph(int moved) {
            int from = start;
            start = texts.length;
            blank = false;
            if (start == from || over) {
                return;
            }
            if (texts.paragraphs == Texts.PARAGRAPHS) {
                over = true;
                return;
            }
            int row = texts.paragraphs * Texts.FACTS;
            int part = owner < 0 ? Looks.BLOCK : looks.fact(owner, Looks.PART);
            boolean indented = part != Looks.NOTE && part != Looks.CELL;
            texts.paragraphs++;
            texts.facts[row + Texts.START] = from;
            texts.facts[row + Texts.STOP] = start;
            texts.facts[row + Texts.OWNER] = owner;
            texts.facts[row + Texts.WIDTH] = widthHere(moved);
            texts.facts[row + Texts.LEFT] = left + moved;
            texts.facts[row + Texts.LEAD] = looks.property(owner, Style.LEAD);
            texts.facts[row + Texts.INDENT] = indented ? looks.property(owner, Style.INDENT) : 0;
            texts.facts[row + Texts.ALIGN] = looks.property(owner, Style.ALIGN);
            texts.facts[row + Texts.TOLERANCE] = looks.property(owner, Style.TOLERANCE);
            texts.facts[row + Texts.ROW] = column < 0 ? -1 : texts.rowCount;
            texts.facts[row + Texts.COLUMN] = column;
            texts.facts[row + Texts.GAP] = gap;
            gap = 0;
        }
    }

    /** Parts WORDS at BREAKS, and takes of all rows of BREAKS the one of the least cost. */
    private static final class Breaker {
        static final long NEVER = 0x7fffffffffffffffL;
        static final int ALL_BUT_TOO_LONG = 10000;
        static final int ALL = 10001;
        static final int CLASSES = 4;
        // what a line TOO LONG costs at least: its BADNESS and that it is so
        static final long TOO_LONG_COST = 10010L * 10010L + 1000000000L;

        final byte[] worth;
        // of each BREAK and CLASS of the line that ends there
        final long[] costs;
        final int[] before;
        // of the rows to a BREAK the best one, for each CLASS of a line that goes on from there
        final long[] leadCosts;
        final int[] leads;
        // of the rows to the END the least cost so far
        long endCost;
        final int[] row;
        int rowLength;
        // of the line that was weighed last
        long width;
        long room;
        long stretch;
        long shrink;
        int ratio;
        int badness;
        int grade;
        boolean tooLong;

        Breaker() {
            worth = new byte[Texts.BYTES];
            costs = new long[(Texts.BREAKS + 1) * CLASSES];
            before = new int[(Texts.BREAKS + 1) * CLASSES];
            leadCosts = new long[CLASSES];
            leads = new int[CLASSES];
            row = new int[Texts.BREAKS];
        }

        /** Finds the BREAKS of a PARAGRAPH; hyphens is null where none are wanted. Answers whether they are few enough. */
        boolean part(Texts texts, int p, Font font, Hyphens hyphens) {
            int from = texts.fact(p, Texts.START);
            int to = texts.fact(p, Texts.STOP);
            Arrays.fill(worth, from, to, (byte) 0);
            if (hyphens != null) {
                markWords(texts.bytes, from, to, hyphens);
            }
            int first = texts.breaks;
            long ahead = 0;
            int partFrom = from;
            for (int i = from + 1; i <= to; i++) {
                int kind = kindAt(texts.bytes, i, to);
                if (kind >= 0) {
                    if (texts.breaks - first == Texts.BREAKS) {
                        return false;
                    }
                    ahead += font.partWidth(texts, partFrom, i);
                    int own = 0;
                    if (kind == Texts.GLUE) {
                        own = font.width(' ', texts.sizes[i]);
                    } else if (kind == Texts.HYPHEN) {
                        own = font.width('-', texts.sizes[i - 1]);
                    }
                    texts.breakAt[texts.breaks] = i * 4 + kind;
                    texts.breakAhead[texts.breaks] = ahead;
                    texts.breakWidth[texts.breaks] = own;
                    texts.breaks++;
                    ahead += kind == Texts.GLUE ? own : 0;
                    partFrom = kind == Texts.GLUE ? i + 1 : i;
                }
            }
            texts.facts[p * Texts.FACTS + Texts.BREAK] = first;
            texts.facts[p * Texts.FACTS + Texts.BREAK_COUNT] = texts.breaks - first;
            return true;
        }

        private void markWords(byte[] bytes, int from, int to, Hyphens hyphens) {
            int first = from;
            for (int i = from; i <= to; i++) {
                boolean letter = i < to && Signs.isSmall(Hyphens.small(bytes[i]));
                if (!letter) {
                    if (i > first) {
                        hyphens.mark(bytes, first, i, worth);
                    }
                    first = i + 1;
                }
            }
        }

        /** The kind of the BREAK ahead of byte i, -1 without. */
        private int kindAt(byte[] bytes, int i, int to) {
            if (i == to) {
                return Texts.LAST;
            }
            if (bytes[i] == ' ') {
                return Texts.GLUE;
            }
            if (bytes[i - 1] == '-') {
                return Texts.DASH;
            }
            return (worth[i] & 1) == 1 ? Texts.HYPHEN : -1;
        }

        void breakLines(Texts texts, int p) {
            int tolerance = texts.fact(p, Texts.TOLERANCE);
            int told = tolerance;
            int end = findRow(texts, p, tolerance);
            if (end < 0 && tolerance < ALL_BUT_TOO_LONG) {
                told = ALL_BUT_TOO_LONG;
                end = findRow(texts, p, told);
            }
            if (end < 0) {
                told = ALL;
                end = findRow(texts, p, told);
            }
            texts.facts[p * Texts.FACTS + Texts.TOLD] = told;
            texts.costs[p] = costs[end];
            keepLines(texts, p, end);
        }

        private void keepLines(Texts texts, int p, int end) {
            int count = 0;
            int state = end;
            for (int n = 0; n <= Texts.BREAKS && state >= CLASSES; n++) {
                count++;
                state = before[state];
            }
            texts.facts[p * Texts.FACTS + Texts.LINE] = texts.lines;
            texts.facts[p * Texts.FACTS + Texts.LINE_COUNT] = count;
            state = end;
            for (int i = texts.lines + count - 1; i >= texts.lines; i--) {
                texts.lineEnds[i] = state / CLASSES;
                state = before[state];
            }
            texts.lines += count;
        }

        /** The state at the END of the best row that the tolerance allows, -1 if it allows none. */
        private int findRow(Texts texts, int p, int tolerance) {
            int count = texts.fact(p, Texts.BREAK_COUNT);
            Arrays.fill(costs, 0, (count + 1) * CLASSES, NEVER);
            // ahead of the first line stands one of CLASS 1
            costs[1] = 0;
            before[1] = -1;
            endCost = NEVER;
            for (int from = 0; from < count; from++) {
                if (findLeads(from)) {
                    goOn(texts, p, from, tolerance);
                }
            }
            int best = -1;
            for (int s = count * CLASSES; s < (count + 1) * CLASSES; s++) {
                if (costs[s] < NEVER && (best < 0 || costs[s] < costs[best]
                        || (costs[s] == costs[best] && comesFirst(s, best)))) {
                    best = s;
                }
            }
            return best;
        }

        /** Answers whether there is a row to the BREAK at all. */
        private boolean findLeads(int from) {
            boolean reached = false;
            Arrays.fill(leadCosts, NEVER);
            for (int state = from * CLASSES; state < (from + 1) * CLASSES; state++) {
                for (int c = 0; c < CLASSES && costs[state] < NEVER; c++) {
                    boolean far = Math.abs(state - from * CLASSES - c) > 1;
                    long cost = costs[state] + (far ? 10000 : 0);
                    if (cost < leadCosts[c] || (cost == leadCosts[c] && comesFirst(state, leads[c]))) {
                        leadCosts[c] = cost;
                        leads[c] = state;
                    }
                    reached = true;
                }
            }
            return reached;
        }

        /** Tries all lines from a BREAK on; of equal rows the first that came stays: its BREAK ahead is less. */
        private void goOn(Texts texts, int p, int from, int tolerance) {
            int base = texts.fact(p, Texts.BREAK) - 1;
            int count = texts.fact(p, Texts.BREAK_COUNT);
            int kindBefore = texts.kindOf(p, from);
            boolean just = texts.fact(p, Texts.ALIGN) == 0;
            long origin = from == 0 ? 0 : texts.breakAhead[base + from] + texts.glueAt(p, from);
            room = texts.lineRoom(p, from);
            stretch = just ? 0 : room;
            shrink = 0;
            for (int to = from + 1; to <= count; to++) {
                int kind = texts.breakAt[base + to] & 3;
                int own = texts.breakWidth[base + to];
                width = texts.breakAhead[base + to] - origin;
                long over = width - shrink - room;
                // without a - it is TOO LONG already, and so are all that go further: they cost no less
                if (over > 0 && (tolerance < ALL || leadCosts[0] + TOO_LONG_COST + over >= endCost)) {
                    return;
                }
                width += kind == Texts.HYPHEN ? own : 0;
                long price = weigh(kindBefore, kind);
                int state = to * CLASSES + grade;
                boolean allowed = tolerance == ALL || (!tooLong && badness <= tolerance);
                if (allowed && leadCosts[grade] + price < costs[state]) {
                    costs[state] = leadCosts[grade] + price;
                    before[state] = leads[grade];
                    endCost = to == count ? Math.min(endCost, costs[state]) : endCost;
                }
                if (just && kind == Texts.GLUE) {
                    stretch += own / 2;
                    shrink += own / 3;
                }
            }
        }

        /** Of two rows to the same BREAK: whether the BREAKS of a, from the last on, are less. */
        private boolean comesFirst(int a, int b) {
            int x = before[a];
            int y = before[b];
            for (int n = 0; n <= Texts.BREAKS && x >= 0 && y >= 0; n++) {
                if (x / CLASSES != y / CLASSES) {
                    return x / CLASSES < y / CLASSES;
                }
                x = before[x];
                y = before[y];
            }
            return false;
        }

        /** Finds RATIO, BADNESS and CLASS of the line; answers its COST but for that of its neighbour's CLASS. */
        private long weigh(int kindBefore, int kind) {
            long over = width - room;
            tooLong = over > shrink;
            if (tooLong) {
                ratio = -1000;
                badness = 10000;
                grade = 0;
            } else {
                weighFitting(over, kind);
            }
            long price = (10L + badness) * (10L + badness);
            boolean parted = kind == Texts.HYPHEN || kind == Texts.DASH;
            boolean partedBefore = kindBefore == Texts.HYPHEN || kindBefore == Texts.DASH;
            if (parted) {
                price += kind == Texts.HYPHEN ? 2500 : 900;
            }
            if (partedBefore) {
                price += parted ? 3000 : kind == Texts.LAST ? 5000 : 0;
            }
            return price + (tooLong ? 1000000000L + over - shrink : 0);
        }

        private void weighFitting(long over, int kind) {
            if (over == 0 || (over < 0 && kind == Texts.LAST)) {
                ratio = 0;
            } else if (over < 0) {
                ratio = stretch <= 0 ? 100000 : (int) Math.min(-over * 1000 / stretch, 100000);
            } else {
                ratio = shrink <= 0 ? -1000 : (int) -((over * 1000 + shrink - 1) / shrink);
            }
            long size = Math.abs(ratio);
            badness = (int) Math.min(100 * size * size * size / 1000000000L, 10000);
            grade = ratio < -500 ? 0 : ratio <= 500 ? 1 : ratio <= 1000 ? 2 : 3;
        }

        /** Weighs one line by itself. */
        private long weighLine(Texts texts, int p, int from, int to) {
            boolean just = texts.fact(p, Texts.ALIGN) == 0;
            width = texts.lineWidth(p, from, to);
            room = texts.lineRoom(p, from);
            stretch = just ? 0 : room;
            shrink = 0;
            for (int k = from + 1; k < to && just; k++) {
                stretch += texts.glueAt(p, k) / 2;
                shrink += texts.glueAt(p, k) / 3;
            }
            return weigh(texts.kindOf(p, from), texts.kindOf(p, to));
        }

        int ratioOf(Texts texts, int p, int index) {
            weighLine(texts, p, texts.lineStart(p, index), texts.lineStop(p, index));
            return ratio;
        }

        /** Where WORD w of a line begins, from where the line does. */
        long spotIn(Texts texts, int p, int index, int w) {
            int from = texts.lineStart(p, index);
            int to = texts.lineStop(p, index);
            weighLine(texts, p, from, to);
            long origin = texts.widthAhead(p, from) + texts.glueAt(p, from);
            long stretched = 0;
            long shrunk = 0;
            long natural = 0;
            int glues = 0;
            for (int k = from + 1; k < to && glues < w; k++) {
                if (texts.kindOf(p, k) == Texts.GLUE) {
                    glues++;
                    stretched += texts.glueAt(p, k) / 2;
                    shrunk += texts.glueAt(p, k) / 3;
                    natural = texts.widthAhead(p, k) + texts.glueAt(p, k) - origin;
                }
            }
            boolean just = texts.fact(p, Texts.ALIGN) == 0;
            if (just && width < room && texts.kindOf(p, to) != Texts.LAST && stretch > 0) {
                natural += (room - width) * stretched / stretch;
            } else if (just && width > room) {
                natural -= tooLong || shrink <= 0 ? shrunk : (width - room) * shrunk / shrink;
            }
            return natural;
        }

        /** Reads BREAKS of a PARAGRAPH that has so many; if they are none such, the SIGN tells where. */
        boolean readRow(Signs s, int count) {
            rowLength = 0;
            int last = 0;
            for (int n = 0; n < Texts.BREAKS && s.kind == Signs.NUMBER; n++) {
                if (s.number <= last || s.number >= count) {
                    return false;
                }
                last = s.number;
                row[rowLength] = last;
                rowLength++;
                s.next();
            }
            return s.kind == Signs.END;
        }

        /** COST of the row that was read, -1 if a line is not allowed by the tolerance that was taken. */
        long costOfRow(Texts texts, int p) {
            int told = texts.fact(p, Texts.TOLD);
            int from = 0;
            int gradeBefore = 1;
            long cost = 0;
            for (int n = 0; n <= rowLength; n++) {
                int to = n < rowLength ? row[n] : texts.fact(p, Texts.BREAK_COUNT);
                cost += weighLine(texts, p, from, to);
                if (told < ALL && (tooLong || badness > told)) {
                    return -1;
                }
                cost += Math.abs(grade - gradeBefore) > 1 ? 10000 : 0;
                gradeBefore = grade;
                from = to;
            }
            return cost;
        }
    }

    /** What is SET: lines in columns on pages, with NOTES and floats, and where ELEMENTS are. */
    private static final class Pages {
        // facts of a line of FLOW; INDEX is -1 for a row, whose cells are the PARAGRAPHS up to STOP
        static final int PARAGRAPH = 0;
        static final int INDEX = 1;
        static final int STOP = 2;
        static final int HEIGHT = 3;
        static final int GAP = 4;
        static final int MAY_END = 5;
        static final int HYPHENED = 6;
        static final int COLUMN = 7;
        static final int TOP = 8;
        static final int NUMBER = 9;
        static final int FIRST_BYTE = 10;
        static final int LEFT = 11;
        static final int LINE_FACTS = 12;
        // facts of an ELEMENT; BEGIN and FINISH are bytes of FLOW first, then lines
        static final int BEGIN = 0;
        static final int FINISH = 1;
        static final int FLOW = 2;
        static final int VALUE = 3;
        static final int ID = 4;
        static final int ELEMENT_FACTS = 5;
        // facts of a NOTE: its ELEMENT, PARAGRAPH, and how many lines of NOTES are ahead of it
        static final int CALLER = 0;
        static final int TEXT = 1;
        static final int AHEAD = 2;
        static final int NOTE_FACTS = 3;
        static final int NOTE_LIMIT = 120;
        static final int FLOAT_LIMIT = 40;
        // how many lines, lines of NOTES and floats stand ahead of a column
        static final int LINES = 0;
        static final int NOTE_LINES = 1;
        static final int FLOATS = 2;
        static final int COLUMN_FACTS = 3;

        final int[] page;
        final Texts texts;
        final int[] lineFacts;
        int lines;
        final int[] noteFacts;
        int notes;
        // the ELEMENT of a float and its height, behind each other
        final int[] floatFacts;
        int floats;
        final int[] columnFacts;
        int columns;
        int pages;
        final int[] heads;
        final int[] elementFacts;
        int elements;
        // the bytes of SOURCE, for IDS, and TITLES behind them
        final byte[] kept;
        final int[] waverers;
        int wavers;
        int entries;
        int changed;
        byte[] out;
        int outAt;

        Pages() {
            page = new int[Style.PAGE_VALUES];
            texts = new Texts();
            lineFacts = new int[LINE_LIMIT * LINE_FACTS];
            noteFacts = new int[NOTE_LIMIT * NOTE_FACTS];
            floatFacts = new int[FLOAT_LIMIT * 2];
            columnFacts = new int[(COLUMN_LIMIT + 1) * COLUMN_FACTS];
            heads = new int[COLUMN_LIMIT + 1];
            elementFacts = new int[Source.ELEMENTS * ELEMENT_FACTS];
            kept = new byte[TEXT_LIMIT + Source.ELEMENTS * Looks.TITLE_LIMIT];
            waverers = new int[Source.ELEMENTS];
        }

        void clear() {
            lines = 0;
            notes = 0;
            floats = 0;
            columns = 0;
            pages = 0;
        }

        int lineFact(int l, int which) {
            return lineFacts[l * LINE_FACTS + which];
        }

        int elementFact(int e, int which) {
            return elementFacts[e * ELEMENT_FACTS + which];
        }

        int noteFact(int n, int which) {
            return noteFacts[n * NOTE_FACTS + which];
        }

        int columnFact(int c, int which) {
            return columnFacts[c * COLUMN_FACTS + which];
        }

        boolean isRow(int l) {
            return lineFact(l, INDEX) < 0;
        }

        void mark(int e, int which, int value) {
            elementFacts[e * ELEMENT_FACTS + which] = value;
        }

        boolean addNote(int e) {
            if (notes == NOTE_LIMIT) {
                return false;
            }
            noteFacts[notes * NOTE_FACTS + CALLER] = e;
            notes++;
            return true;
        }

        boolean addFloat(int e, int height) {
            if (floats == FLOAT_LIMIT) {
                return false;
            }
            floatFacts[floats * 2] = e;
            floatFacts[floats * 2 + 1] = Math.min(height, page[Style.PAGE_HEIGHT]);
            floats++;
            return true;
        }

        int floatElement(int f) {
            return floatFacts[f * 2];
        }

        int floatHeight(int f) {
            return floatFacts[f * 2 + 1];
        }

        /** The lines of FLOW; answers whether they are few enough. */
        boolean makeLines(Looks looks) {
            for (int p = 0; p < texts.flowParagraphs; p++) {
                int row = texts.fact(p, Texts.ROW);
                if (row < 0) {
                    if (!addLines(looks, p)) {
                        return false;
                    }
                } else if (texts.rows[row * Texts.ROW_FACTS + Texts.ROW_FIRST] == p) {
                    if (!addRow(looks, row)) {
                        return false;
                    }
                }
            }
            if (lines > 0) {
                lineFacts[(lines - 1) * LINE_FACTS + MAY_END] = 1;
            }
            countNoteLines();
            return true;
        }

        private boolean addLines(Looks looks, int p) {
            int count = texts.fact(p, Texts.LINE_COUNT);
            int block = texts.fact(p, Texts.OWNER);
            if (lines + count > LINE_LIMIT) {
                return false;
            }
            for (int i = 0; i < count; i++) {
                int at = lines * LINE_FACTS;
                int behind = count - 1 - i;
                boolean inside = i + 1 >= looks.property(block, Style.FIRST)
                        && behind >= looks.property(block, Style.LAST);
                boolean mayEnd = behind > 0 ? inside : looks.property(block, Style.KEEP) == 0;
                lineFacts[at + PARAGRAPH] = p;
                lineFacts[at + INDEX] = i;
                lineFacts[at + STOP] = p + 1;
                lineFacts[at + HEIGHT] = texts.fact(p, Texts.LEAD);
                lineFacts[at + GAP] = i == 0 ? texts.fact(p, Texts.GAP) : 0;
                lineFacts[at + MAY_END] = mayEnd ? 1 : 0;
                lineFacts[at + HYPHENED] = texts.kindOf(p, texts.lineStop(p, i)) == Texts.HYPHEN ? 1 : 0;
                lineFacts[at + FIRST_BYTE] = texts.placeBehind(p, texts.lineStart(p, i));
                lineFacts[at + LEFT] = texts.lineLeft(p, i);
                lines++;
            }
            return true;
        }

        private boolean addRow(Looks looks, int row) {
            if (lines == LINE_LIMIT) {
                return false;
            }
            int facts = row * Texts.ROW_FACTS;
            int table = texts.rows[facts + Texts.ROW_TABLE] * Texts.TABLE_FACTS;
            int first = texts.rows[facts + Texts.ROW_FIRST];
            int stop = texts.rows[facts + Texts.ROW_STOP];
            int height = looks.property(texts.rows[facts + Texts.ROW_ELEMENT], Style.LEAD);
            for (int p = first; p < stop; p++) {
                height = Math.max(height, texts.fact(p, Texts.LINE_COUNT) * texts.fact(p, Texts.LEAD));
            }
            int at = lines * LINE_FACTS;
            lineFacts[at + PARAGRAPH] = first;
            lineFacts[at + INDEX] = -1;
            lineFacts[at + STOP] = stop;
            lineFacts[at + HEIGHT] = height;
            lineFacts[at + GAP] = texts.fact(first, Texts.GAP);
            lineFacts[at + MAY_END] = 1 - looks.property(texts.tables[table + Texts.TABLE_ELEMENT], Style.KEEP);
            lineFacts[at + HYPHENED] = 0;
            lineFacts[at + FIRST_BYTE] = texts.fact(first, Texts.START);
            lineFacts[at + LEFT] = texts.tables[table + Texts.TABLE_LEFT];
            lines++;
            return true;
        }

        private void countNoteLines() {
            int ahead = 0;
            for (int n = 0; n < notes; n++) {
                noteFacts[n * NOTE_FACTS + AHEAD] = ahead;
                ahead += noteLines(n);
            }
        }

        int noteLines(int n) {
            return texts.fact(noteFact(n, TEXT), Texts.LINE_COUNT);
        }

        int noteLead(int n) {
            return texts.fact(noteFact(n, TEXT), Texts.LEAD);
        }

        int lineLeft(int l) {
            return lineFact(l, LEFT);
        }

        /** Turns the bytes where ELEMENTS begin and end into lines. */
        void findElements(Looks looks) {
            elements = looks.source.elements;
            for (int e = 0; e < elements; e++) {
                int begin = -1;
                int finish = -1;
                int flow = looks.fact(e, Looks.FLOW);
                if (flow == 1 && lines > 0) {
                    int first = elementFact(e, BEGIN);
                    int last = elementFact(e, FINISH) - 1;
                    begin = lineOf(first);
                    finish = last >= first ? lineOf(last) : begin;
                }
                mark(e, BEGIN, begin);
                mark(e, FINISH, finish);
                mark(e, FLOW, flow);
                mark(e, VALUE, looks.fact(e, Looks.VALUE));
            }
        }

        /** The line of the first byte but blanks from there on, the last line if there is none. */
        private int lineOf(int place) {
            int at = place < texts.flowLength && texts.bytes[place] == ' ' ? place + 1 : place;
            int low = 0;
            int high = lines - 1;
            for (int n = 0; n < LINE_LIMIT && low < high; n++) {
                int middle = (low + high + 1) / 2;
                if (lineFact(middle, FIRST_BYTE) <= at) {
                    low = middle;
                } else {
                    high = middle - 1;
                }
            }
            return low;
        }

        /** The columns are known: where lines stand in them, their NUMBERS, and the HEADS of pages. */
        void finish(Looks looks) {
            int perPage = page[Style.PAGE_COLUMNS];
            pages = (columns + perPage - 1) / perPage;
            int number = 0;
            for (int c = 0; c < columns; c++) {
                int top = 0;
                for (int f = columnFact(c, FLOATS); f < columnFact(c + 1, FLOATS); f++) {
                    top += floatHeight(f);
                }
                if (page[Style.PAGE_LINES] == 1 && c % perPage == 0) {
                    number = 0;
                }
                for (int l = columnFact(c, LINES); l < columnFact(c + 1, LINES); l++) {
                    top += l > columnFact(c, LINES) ? lineFact(l, GAP) : 0;
                    boolean counted = isCounted(looks, l);
                    number += counted ? 1 : 0;
                    lineFacts[l * LINE_FACTS + COLUMN] = c;
                    lineFacts[l * LINE_FACTS + TOP] = top;
                    lineFacts[l * LINE_FACTS + NUMBER] = counted ? number : 0;
                    top += lineFact(l, HEIGHT);
                }
            }
            findHeads(looks);
        }

        private boolean isCounted(Looks looks, int l) {
            int block = texts.fact(lineFact(l, PARAGRAPH), Texts.OWNER);
            return page[Style.PAGE_LINES] > 0 && !isRow(l) && looks.property(block, Style.COUNT) == 1;
        }

        private void findHeads(Looks looks) {
            int e = 0;
            int last = -1;
            for (int n = 1; n <= pages; n++) {
                int first = -1;
                for (; e < elements && pageOf(e) <= n; e++) {
                    if (elementFact(e, FLOW) == 1 && looks.property(e, Style.HEAD) == 1) {
                        first = first < 0 ? e : first;
                        last = e;
                    }
                }
                heads[n] = first < 0 ? last : first;
            }
        }

        int numberAt(int l) {
            return l < 0 ? 0 : lineFact(l, NUMBER);
        }

        /** PAGE of an ELEMENT, 0 if there are no lines or it is not IN FLOW. */
        int pageOf(int e) {
            int l = elementFact(e, BEGIN);
            return l < 0 ? 0 : lineFact(l, COLUMN) / page[Style.PAGE_COLUMNS] + 1;
        }

        int beginNumber(int e) {
            return numberAt(elementFact(e, BEGIN));
        }

        int finishNumber(int e) {
            int l = elementFact(e, FINISH);
            return l == elementFact(e, BEGIN) ? -1 : numberAt(l);
        }

        /** Finds the ELEMENTS whose text had other pages or LINES than those found. */
        void compare(Looks looks, Writer taken) {
            boolean contentsMoved = false;
            boolean indexMoved = false;
            for (int e = 0; e < elements; e++) {
                boolean titled = elementFact(e, FLOW) == 1 && looks.property(e, Style.DEPTH) > 0;
                contentsMoved = contentsMoved || (titled && taken.takenPage[e] != pageOf(e));
            }
            for (int k = 0; k < looks.entries; k++) {
                int term = looks.entryTerms[k];
                for (int n = 0; n < elements && term >= 0; n++) {
                    indexMoved = indexMoved || taken.takenPage[term] != pageOf(term);
                    term = looks.fact(term, Looks.NEXT_TERM);
                }
            }
            wavers = 0;
            for (int e = 0; e < elements; e++) {
                int part = looks.fact(e, Looks.PART);
                boolean moved = (part == Looks.CONTENTS && contentsMoved) || (part == Looks.INDEX && indexMoved)
                        || targetMoved(looks, taken, e, part);
                if (moved) {
                    waverers[wavers] = e;
                    wavers++;
                }
            }
        }

        private boolean targetMoved(Looks looks, Writer taken, int e, int part) {
            int target = looks.fact(e, Looks.TARGET);
            if (target < 0) {
                return false;
            }
            boolean lineMoved = taken.takenLine[target] != beginNumber(target);
            if (part == Looks.NOTE) {
                return lineMoved || taken.takenEnd[target] != finishNumber(target);
            }
            int as = looks.fact(e, Looks.AS);
            return as == Looks.AS_LINE ? lineMoved
                    : as == Looks.AS_PAGE && taken.takenPage[target] != pageOf(target);
        }

        /** Keeps of SOURCE and STYLE what is told later, and compares with what was SET before. */
        void keep(Looks looks, Pages before) {
            Source source = looks.source;
            System.arraycopy(source.text, 0, kept, 0, source.length);
            System.arraycopy(looks.titles, 0, kept, TEXT_LIMIT, elements * Looks.TITLE_LIMIT);
            for (int e = 0; e < elements; e++) {
                int id = looks.fact(e, Looks.ID);
                mark(e, ID, id < 0 ? -1 : source.fieldSpans[id]);
            }
            for (int n = 1; n <= pages; n++) {
                // HEADS are kept with how long their TITLES are
                heads[n] = heads[n] < 0 ? 0 : heads[n] * 64 + looks.fact(heads[n], Looks.TITLE);
            }
            entries = looks.entries;
            texts.hashAll();
            changed = 0;
            for (int p = 0; p < texts.paragraphs; p++) {
                changed += before != null && before.texts.hasLike(texts, p) ? 0 : 1;
            }
        }

        int elementWithId(byte[] tape, int length) {
            for (int e = 0; e < elements; e++) {
                int span = elementFact(e, ID);
                int from = Signs.spanFrom(span);
                boolean same = span >= 0 && Signs.spanStop(span) - from == length;
                for (int i = 0; i < length && same; i++) {
                    same = kept[from + i] == tape[i];
                }
                if (same) {
                    return e;
                }
            }
            return -1;
        }

        int tally(int what) {
            switch (what) {
                case 3: return pages;
                case 4: return columns;
                case 5: return lines;
                case 6: return texts.paragraphs;
                case 7: return notes;
                case 8: return floats;
                case 9: return entries;
                case 10: return wavers;
                default: return changed;
            }
        }

        int tellNote(int n, int what) {
            int first = noteFact(n, AHEAD);
            int column = columnWith(NOTE_LINES, first);
            int here = Math.min(columnFact(column + 1, NOTE_LINES) - first, noteLines(n));
            switch (what) {
                case 0: return noteFact(n, CALLER);
                case 1: return elementFact(noteFact(n, CALLER), BEGIN);
                case 2: return noteLines(n);
                case 3: return column;
                case 4: return here;
                default: return noteTop(n, first, columnFact(column + 1, NOTE_LINES));
            }
        }

        /** The top of a line of NOTES, of which those before stop stand in its column, the last one at its foot. */
        private int noteTop(int n, int from, int stop) {
            int top = page[Style.PAGE_HEIGHT];
            int at = from;
            for (int k = n; k < notes && at < stop; k++) {
                int behind = Math.min(stop, noteFact(k, AHEAD) + noteLines(k));
                top -= (behind - at) * noteLead(k);
                at = behind;
            }
            return top;
        }

        int tellFloat(int f, int what) {
            if (what == 0) {
                return floatElement(f);
            }
            if (what == 1 || lines == 0) {
                return what == 3 ? 0 : elementFact(floatElement(f), BEGIN);
            }
            int column = columnWith(FLOATS, f);
            int top = 0;
            for (int k = columnFact(column, FLOATS); k < f; k++) {
                top += floatHeight(k);
            }
            return what == 2 ? column : top;
        }

        private int columnWith(int which, int k) {
            int column = 0;
            for (int c = 0; c < columns; c++) {
                if (columnFact(c, which) <= k && k < columnFact(c + 1, which)) {
                    column = c;
                }
            }
            return column;
        }

        /** Writes a page, or only counts its bytes if there is nothing to write to. */
        int printPage(int n, byte[] bytes) {
            int perPage = page[Style.PAGE_COLUMNS];
            out = bytes;
            outAt = 0;
            putNumber(n);
            put(' ');
            int title = TEXT_LIMIT + heads[n] / 64 * Looks.TITLE_LIMIT;
            for (int i = title; i < title + heads[n] % 64; i++) {
                put(kept[i]);
            }
            put(10);
            for (int c = (n - 1) * perPage; c < n * perPage && c < columns; c++) {
                int left = c % perPage * (page[Style.PAGE_WIDTH] + page[Style.PAGE_GAP]);
                printFloats(c);
                printLines(c, left);
                printNotes(c, left);
            }
            out = null;
            return outAt;
        }

        private void printFloats(int c) {
            int top = 0;
            for (int f = columnFact(c, FLOATS); f < columnFact(c + 1, FLOATS); f++) {
                putNumber(top);
                put(' ');
                put('=');
                put(10);
                top += floatHeight(f);
            }
        }

        private void printLines(int c, int left) {
            for (int l = columnFact(c, LINES); l < columnFact(c + 1, LINES); l++) {
                int top = lineFact(l, TOP);
                if (!isRow(l)) {
                    printLine(lineFact(l, PARAGRAPH), lineFact(l, INDEX), top, left);
                } else {
                    for (int p = lineFact(l, PARAGRAPH); p < lineFact(l, STOP); p++) {
                        for (int i = 0; i < texts.fact(p, Texts.LINE_COUNT); i++) {
                            printLine(p, i, top + i * texts.fact(p, Texts.LEAD), left);
                        }
                    }
                }
            }
        }

        private void printNotes(int c, int left) {
            int from = columnFact(c, NOTE_LINES);
            int stop = columnFact(c + 1, NOTE_LINES);
            for (int n = 0; n < notes; n++) {
                int ahead = noteFact(n, AHEAD);
                int first = Math.max(from, ahead);
                int behind = Math.min(stop, ahead + noteLines(n));
                int top = first < behind ? noteTop(n, first, stop) : 0;
                for (int i = first; i < behind; i++) {
                    printLine(noteFact(n, TEXT), i - ahead, top, left);
                    top += noteLead(n);
                }
            }
        }

        private void printLine(int p, int index, int top, int left) {
            int end = texts.lineStop(p, index);
            putNumber(top);
            put(' ');
            putNumber(left + texts.lineLeft(p, index));
            put(' ');
            for (int i = texts.placeBehind(p, texts.lineStart(p, index)); i < texts.placeOf(p, end); i++) {
                put(texts.bytes[i]);
            }
            if (texts.kindOf(p, end) == Texts.HYPHEN) {
                put('-');
            }
            put(10);
        }

        private void put(int c) {
            if (out != null && outAt < out.length) {
                out[outAt] = (byte) c;
            }
            outAt++;
        }

        private void putNumber(int value) {
            int left = value;
            if (left < 0) {
                put('-');
                left = -left;
            }
            int unit = 1;
            for (int n = 0; n < 9 && left / unit >= 10; n++) {
                unit *= 10;
            }
            for (; unit > 0; unit /= 10) {
                put('0' + left / unit % 10);
            }
        }
    }

    /** Stands lines in columns: of all rows of columns the one of the least cost. */
    private static final class Stacker {
        static final int WAYS = 20000;
        static final int BUCKETS = 4096;
        // facts of a way to stand: what is placed, the way before, the next of as many lines, of the same bucket
        static final int LINES = 0;
        static final int NOTE_LINES = 1;
        static final int FLOATS = 2;
        static final int BEFORE = 3;
        static final int NEXT = 4;
        static final int LINK = 5;
        static final int FACTS = 6;

        final int[] ways;
        final long[] costs;
        int count;
        final int[] byLines;
        final int[] buckets;
        // of NOTES and floats, how many are called by lines ahead of a line
        final int[] notesAhead;
        final int[] floatsAhead;
        // of NOTES, how many lines and how much height those ahead of one have
        final int[] noteLines;
        final long[] noteHeights;
        Pages pages;
        int height;
        int rule;
        boolean over;

        Stacker() {
            ways = new int[WAYS * FACTS];
            costs = new long[WAYS];
            byLines = new int[LINE_LIMIT + 1];
            buckets = new int[BUCKETS];
            notesAhead = new int[LINE_LIMIT + 1];
            floatsAhead = new int[LINE_LIMIT + 1];
            noteLines = new int[Pages.NOTE_LIMIT + 1];
            noteHeights = new long[Pages.NOTE_LIMIT + 1];
        }

        int stack(Pages newPages) {
            prepare(newPages);
            if (pages.lines == 0) {
                return FINE;
            }
            arrive(0, 0, 0, -1, 0);
            for (int l = 0; l < pages.lines && !over; l++) {
                int way = byLines[l];
                for (int n = 0; n < WAYS && way >= 0 && !over; n++) {
                    goOn(way);
                    way = ways[way * FACTS + NEXT];
                }
            }
            if (over) {
                return LIMIT;
            }
            int best = bestEnd();
            if (best < 0) {
                return NO_COLUMNS;
            }
            keepColumns(best);
            return placeRest() ? FINE : LIMIT;
        }

        private void prepare(Pages newPages) {
            pages = newPages;
            height = pages.page[Style.PAGE_HEIGHT];
            rule = pages.page[Style.PAGE_RULE];
            over = false;
            count = 0;
            Arrays.fill(buckets, -1);
            Arrays.fill(byLines, 0, pages.lines + 1, -1);
            Arrays.fill(notesAhead, 0, pages.lines + 1, 0);
            Arrays.fill(floatsAhead, 0, pages.lines + 1, 0);
            for (int n = 0; n < pages.notes; n++) {
                notesAhead[calledBy(pages.noteFact(n, Pages.CALLER)) + 1]++;
                noteLines[n + 1] = noteLines[n] + pages.noteLines(n);
                noteHeights[n + 1] = noteHeights[n] + (long) pages.noteLines(n) * pages.noteLead(n);
            }
            for (int f = 0; f < pages.floats; f++) {
                floatsAhead[calledBy(pages.floatElement(f)) + 1]++;
            }
            for (int l = 1; l <= pages.lines; l++) {
                notesAhead[l] += notesAhead[l - 1];
                floatsAhead[l] += floatsAhead[l - 1];
            }
        }

        private int calledBy(int e) {
            return pages.elementFact(e, Pages.BEGIN);
        }

        /** Tries all columns that begin where a way stands. */
        private void goOn(int way) {
            int from = ways[way * FACTS + LINES];
            int called = notesAhead[from];
            int rest = noteLines[called] - ways[way * FACTS + NOTE_LINES];
            long used = 0;
            for (int l = from; l < pages.lines && !over; l++) {
                used += pages.lineFact(l, Pages.HEIGHT) + (l > from ? pages.lineFact(l, Pages.GAP) : 0);
                long least = used + leastOfNotes(called, notesAhead[l + 1], rest);
                if (least > height) {
                    return;
                }
                if (pages.lineFact(l, Pages.MAY_END) == 1) {
                    endColumn(way, l, least, rest);
                }
            }
        }

        /** What must stand at the foot of a column that has a REST and calls NOTES called .. before stop. */
        private long leastOfNotes(int called, int stop, int rest) {
            if (stop == called) {
                return rest == 0 ? 0 : rule + pages.noteLead(called - 1);
            }
            int last = stop - 1;
            long ofRest = rest == 0 ? 0 : (long) rest * pages.noteLead(called - 1);
            long ofLast = (long) Math.min(2, pages.noteLines(last)) * pages.noteLead(last);
            return rule + ofRest + noteHeights[last] - noteHeights[called] + ofLast;
        }

        /** The column ends behind line l: floats and the rest of the last NOTE take what is left of it. */
        private void endColumn(int way, int l, long least, int rest) {
            int called = notesAhead[ways[way * FACTS + LINES]];
            int stop = notesAhead[l + 1];
            long used = least;
            int floating = ways[way * FACTS + FLOATS];
            for (; floating < floatsAhead[l + 1] && used + pages.floatHeight(floating) <= height; floating++) {
                used += pages.floatHeight(floating);
            }
            int open = stop > called ? Math.max(0, pages.noteLines(stop - 1) - 2) : Math.max(0, rest - 1);
            if (open > 0) {
                int lead = pages.noteLead(stop - 1);
                int more = (int) Math.min(open, (height - used) / lead);
                used += (long) more * lead;
                open -= more;
            }
            long cost = 0;
            if (l < pages.lines - 1) {
                long empty = 100 * (height - used) / height;
                cost = empty * empty + (pages.lineFact(l, Pages.HYPHENED) == 1 ? 400 : 0);
            }
            arrive(l + 1, noteLines[stop] - open, floating, way, costs[way] + cost);
        }

        private void arrive(int lines, int placedNotes, int floats, int before, long cost) {
            int bucket = (lines * 31 + placedNotes * 1009 + floats * 257) & (BUCKETS - 1);
            int way = buckets[bucket];
            for (int n = 0; n < WAYS && way >= 0; n++) {
                int at = way * FACTS;
                if (ways[at + LINES] == lines && ways[at + NOTE_LINES] == placedNotes && ways[at + FLOATS] == floats) {
                    if (cost < costs[way] || (cost == costs[way] && comesFirst(before, ways[at + BEFORE]))) {
                        costs[way] = cost;
                        ways[at + BEFORE] = before;
                    }
                    return;
                }
                way = ways[at + LINK];
            }
            if (count == WAYS) {
                over = true;
                return;
            }
            int at = count * FACTS;
            ways[at + LINES] = lines;
            ways[at + NOTE_LINES] = placedNotes;
            ways[at + FLOATS] = floats;
            ways[at + BEFORE] = before;
            ways[at + NEXT] = byLines[lines];
            ways[at + LINK] = buckets[bucket];
            costs[count] = cost;
            byLines[lines] = count;
            buckets[bucket] = count;
            count++;
        }

        /** Of two rows that end with ways a and b: whether a's columns, from the last on, begin with lesser lines. */
        private boolean comesFirst(int a, int b) {
            int x = a;
            int y = b;
            for (int n = 0; n <= LINE_LIMIT && x >= 0 && y >= 0 && x != y; n++) {
                int lines = ways[x * FACTS + LINES];
                int others = ways[y * FACTS + LINES];
                if (lines != others) {
                    return lines < others;
                }
                x = ways[x * FACTS + BEFORE];
                y = ways[y * FACTS + BEFORE];
            }
            return false;
        }

        private int bestEnd() {
            int best = -1;
            int way = byLines[pages.lines];
            for (int n = 0; n < WAYS && way >= 0; n++) {
                if (best < 0 || costs[way] < costs[best] || (costs[way] == costs[best]
                        && comesFirst(ways[way * FACTS + BEFORE], ways[best * FACTS + BEFORE]))) {
                    best = way;
                }
                way = ways[way * FACTS + NEXT];
            }
            return best;
        }

        private void keepColumns(int end) {
            int columns = 0;
            int way = end;
            for (int n = 0; n < LINE_LIMIT && ways[way * FACTS + BEFORE] >= 0; n++) {
                columns++;
                way = ways[way * FACTS + BEFORE];
            }
            way = end;
            for (int c = columns; c >= 0; c--) {
                System.arraycopy(ways, way * FACTS, pages.columnFacts, c * Pages.COLUMN_FACTS, Pages.COLUMN_FACTS);
                way = Math.max(0, ways[way * FACTS + BEFORE]);
            }
            pages.columns = columns;
        }

        /** Columns behind the last line, of a REST and floats alone; answers whether there are few enough. */
        private boolean placeRest() {
            int placed = pages.columnFact(pages.columns, Pages.NOTE_LINES);
            int floating = pages.columnFact(pages.columns, Pages.FLOATS);
            int allLines = noteLines[pages.notes];
            for (int n = 0; n <= COLUMN_LIMIT && (placed < allLines || floating < pages.floats); n++) {
                if (pages.columns == COLUMN_LIMIT) {
                    return false;
                }
                long used = 0;
                if (placed < allLines) {
                    int lead = pages.noteLead(pages.notes - 1);
                    int fitting = Math.max(1, (height - rule) / lead);
                    int more = Math.min(allLines - placed, fitting);
                    used = rule + (long) more * lead;
                    placed += more;
                }
                for (; floating < pages.floats && used + pages.floatHeight(floating) <= height; floating++) {
                    used += pages.floatHeight(floating);
                }
                pages.columns++;
                int at = pages.columns * Pages.COLUMN_FACTS;
                pages.columnFacts[at + Pages.LINES] = pages.lines;
                pages.columnFacts[at + Pages.NOTE_LINES] = placed;
                pages.columnFacts[at + Pages.FLOATS] = floating;
            }
            return true;
        }
    }
}
