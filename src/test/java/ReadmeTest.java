import java.nio.charset.StandardCharsets;

/** What README.md shows, so that it stays true. */
public final class ReadmeTest {
    private static void feed(LaneSheet sheet, String text) {
        byte[] bytes = text.getBytes(StandardCharsets.ISO_8859_1);
        for (int at = 0; at < bytes.length; at += 20) {
            int[] five = new int[5];
            for (int i = 0; i < 20; i++) {
                five[i / 4] = five[i / 4] << 8 | (at + i < bytes.length ? bytes[at + i] & 255 : ' ');
            }
            sheet.feed(five[0], five[1], five[2], five[3], five[4]);
        }
    }

    public static void main(String[] args) {
        String text = "macro fill(n i) i { D0 = new D n; D0[0] = 42; print D0[0] / 4.0; return size D0; }"
            + " macro half(n i) i { undo { D0[1] = 7; return 100 / n; } }";
        LaneSheet sheet = new LaneSheet();
        feed(sheet, text);
        Sheet.due("compile", sheet.compile(text.length()), 2);
        Sheet.due("run fill", sheet.run(0, 100, 3, 0, 0), 0);
        Sheet.due("result", sheet.result(), 3);
        Sheet.due("out type", sheet.out(0, 0), 4);
        Sheet.due("out", sheet.out(0, 1), Double.doubleToLongBits(10.5));
        Sheet.due("run half", sheet.run(1, 100, 0, 0, 0), 1);
        Sheet.due("kind", sheet.about(1), 6);
        Sheet.due("place", sheet.about(2), text.indexOf('/', text.indexOf("half")));
        Sheet.due("trace", sheet.trace(0), 1);
        Sheet.due("cell", sheet.cell(24, 0), 4);
        Sheet.due("element", sheet.element(24, 1), 0);

        String wrong = "macro m() { print x; }";
        feed(sheet, wrong);
        Sheet.due("compile of a wrong text", sheet.compile(wrong.length()), LaneSheet.NONE);
        Sheet.due("kind of its fault", sheet.fault(0), 3);
        Sheet.due("place of its fault", sheet.fault(1), 18);
        Sheet.end();
    }
}
