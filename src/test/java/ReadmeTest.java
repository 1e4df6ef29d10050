import java.io.IOException;
import java.nio.file.Files;
import java.nio.file.Path;

/** README.md: its example is answered as it says, and it names every call and every test. */
public final class ReadmeTest {
    private static final String[] CALLS = {"feed", "end", "font", "hyphens", "style", "source", "change", "place", "set",
        "element", "count", "line", "spot", "paragraph", "judge", "where", "note", "wavering", "print", "word"};

    public static void main(String[] args) throws IOException {
        String readme = Files.readString(Path.of("README.md"));
        example();
        feeder(readme);
        for (String call : CALLS) {
            Desk.due("README.md names " + call, 1, readme.contains("`" + call) ? 1 : 0);
        }
        Desk.due("README.md names .ci/run", 1, readme.contains(".ci/run") ? 1 : 0);
        Desk.close("ReadmeTest");
    }

    private static void example() {
        ScholarsPress press = new ScholarsPress();
        Desk.due("feed", 20, press.feed(0x3c623e68, 0x6f3c2f62, 0x3e202020, 0x20202020, 0x20202020));
        Desk.due("end", 9, press.end(9));
        Desk.due("source", 1, press.source());
        Desk.due("set", 1, press.set(9));
        Desk.due("print", 10, press.print(1));
        Desk.due("word 0", 0x31200a3020302068L, press.word(0));
        Desk.due("word 8", 0x6f0a000000000000L, press.word(8));
    }

    /** As README.md writes it. */
    private static void feedText(ScholarsPress press, String text) {
        int length = 0;
        for (int i = 0; i < text.length(); i += 20) {
            int[] five = new int[5];
            for (int k = 0; k < 20; k++) {
                int b = i + k < text.length() ? text.charAt(i + k) : ' ';
                five[k / 4] = five[k / 4] << 8 | b;
            }
            length = press.feed(five[0], five[1], five[2], five[3], five[4]);
        }
        press.end(Math.min(length, text.length()));
    }

    private static void feeder(String readme) {
        ScholarsPress press = new ScholarsPress();
        take(press, readme, "width \" \" 250; width \"i\" 300; kern \"A\" \"V\" -80; join \"f\" \"i\" 520;");
        Desk.due("font", 4, press.font());
        take(press, readme, "ends 23 hy3ph 1na =scho-lars");
        Desk.due("hyphens", 3, press.hyphens());
        take(press, readme, "page { width: 60000; lines: page; } p { show: block; hyphens: yes; } n { show: note; size: 80%; }");
        Desk.due("style", 2, press.style());
        take(press, readme, "<p id=\"a\">A press for scholars<n>And others.</n></p>");
        Desk.due("source", 2, press.source());
        Desk.due("set", 1, press.set(9));
        Desk.due("lines", 2, press.count(5));
        take(press, readme, "a");
        Desk.due("where", 0, press.where(0));
        feedText(press, "4");
        Desk.dueNoThrow("judge", () -> press.judge(0));
        take(press, readme, "3 7 12");
        Desk.dueThrow("BREAKS that are not there", UnsupportedOperationException.class, () -> press.judge(0));
        Desk.due("place", 2, press.place());
    }

    private static void take(ScholarsPress press, String readme, String text) {
        Desk.due("README.md has " + text, 1, readme.contains("`" + text + "`") ? 1 : 0);
        feedText(press, text);
    }
}
