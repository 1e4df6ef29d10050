/** Promises 1 to 3: a new object, feed, end. */
public final class TapeTest {
    public static void main(String[] args) {
        newObject();
        feedAndEnd();
        Desk.close("TapeTest");
    }

    private static void newObject() {
        ScholarsPress x = new ScholarsPress();
        Desk.due("place of a new object", -1, x.place());
        for (int what = 0; what <= 11; what++) {
            Desk.due("count of a new object", 0, x.count(what));
        }
        Desk.dueThrow("set", Desk.STATE, () -> x.set(1));
        Desk.dueThrow("element", Desk.STATE, () -> x.element(400000, 0));
        Desk.dueThrow("line", Desk.STATE, () -> x.line(0, 0));
        Desk.dueThrow("spot", Desk.STATE, () -> x.spot(0, 0));
        Desk.dueThrow("paragraph", Desk.STATE, () -> x.paragraph(0, 0));
        Desk.dueThrow("judge", Desk.STATE, () -> x.judge(0));
        Desk.dueThrow("where", Desk.STATE, () -> x.where(0));
        Desk.dueThrow("note", Desk.STATE, () -> x.note(0, 0));
        Desk.dueThrow("wavering", Desk.STATE, () -> x.wavering(0));
        Desk.dueThrow("print", Desk.STATE, () -> x.print(1));
        Desk.dueThrow("word", Desk.INDEX, () -> x.word(0));
        Desk.dueThrow("change", Desk.STATE, () -> x.change(0, 5));
    }

    private static void feedAndEnd() {
        ScholarsPress x = new ScholarsPress();
        Desk.due("end of an empty TAPE", 0, x.end(0));
        Desk.dueThrow("end 1 of an empty TAPE", Desk.ARGUMENT, () -> x.end(1));
        Desk.dueThrow("end -1", Desk.ARGUMENT, () -> x.end(-1));
        for (int k = 1; k <= 819; k++) {
            Desk.due("feed", 20 * k, x.feed(0x61616161, 0x61616161, 0x61616161, 0x61616161, 0x61616161));
        }
        Desk.dueThrow("feed of a full TAPE", Desk.INDEX, () -> x.feed(0, 0, 0, 0, 0));
        Desk.due("a feed that throws changes nothing", 16380, x.end(16380));
        Desk.due("end", 16364, x.end(16364));
        Desk.due("feed up to the limit", 16384, x.feed(0, 0, 0, 0, 0));
        Desk.dueThrow("feed over the limit", Desk.INDEX, () -> x.feed(0, 0, 0, 0, 0));
        Desk.due("end", 3, x.end(3));
        Desk.due("feed behind end", 23, x.feed(0x3c612f3e, -1, 0x80000000, 0, 0));
        x.end(7);
        Desk.due("the bytes are the highest first", 1, x.source());
        Desk.due("place", -1, x.place());
        Desk.due("bytes", 7, x.count(2));
        Desk.due("the first byte of the ELEMENT", 3, x.element(0, 1));
    }
}
