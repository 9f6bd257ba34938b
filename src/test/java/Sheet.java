import java.nio.charset.StandardCharsets;
import java.util.NoSuchElementException;

/** What the tests share: texts fed whole, answers held against those that are due. */
final class Sheet {
    static final long THROWN = Long.MIN_VALUE + 4711;
    static final int CALLS_MOST = 512;
    private static final int OWN = 7;
    private static int wrong;
    private static int asked;

    private Sheet() {
    }

    static void due(String what, long got, long want) {
        asked++;
        if (got != want) {
            wrong++;
            if (wrong <= 40) {
                System.out.println(what + " answered " + got + ", due is " + want);
            }
        }
    }

    static void end() {
        System.out.println(asked + " answers, " + wrong + " not as due");
        if (wrong != 0 || asked == 0) {
            System.exit(1);
        }
    }

    static int feed(LaneSheet sheet, String text) {
        byte[] bytes = text.getBytes(StandardCharsets.ISO_8859_1);
        for (int i = 0; i < bytes.length; i += 20) {
            int[] five = new int[5];
            for (int j = 0; j < 20; j++) {
                int next = i + j < bytes.length ? bytes[i + j] & 255 : ' ';
                five[j / 4] = five[j / 4] << 8 | next;
            }
            sheet.feed(five[0], five[1], five[2], five[3], five[4]);
        }
        return bytes.length;
    }

    static int compile(LaneSheet sheet, String text) {
        return sheet.compile(feed(sheet, text));
    }

    /** A new sheet with this program, which must have no FAULT. */
    static LaneSheet of(String text) {
        LaneSheet sheet = new LaneSheet();
        int macros = compile(sheet, text);
        if (macros < 1) {
            due("compile of " + text + " with fault " + sheet.fault(0) + " at " + sheet.fault(1), macros, 1);
        }
        return sheet;
    }

    /** A text with a ^ ahead of the token where a FAULT of this kind is due. */
    static void fault(int kind, String marked) {
        int place = marked.indexOf('^');
        String text = marked.substring(0, place) + marked.substring(place + 1);
        LaneSheet sheet = new LaneSheet();
        due("compile: " + marked, compile(sheet, text), LaneSheet.NONE);
        due("fault(0): " + marked, sheet.fault(0), kind);
        due("fault(1): " + marked, sheet.fault(1), place);
        due("run behind a fault: " + marked, sheet.run(0, 1, 0, 0, 0), LaneSheet.NONE);
    }

    static void fine(String text) {
        LaneSheet sheet = new LaneSheet();
        int macros = compile(sheet, text);
        due("fault(0): " + text + " at " + sheet.fault(1), sheet.fault(0), 0);
        due("fault(1): " + text, sheet.fault(1), 0);
        due("compile has macros: " + text, macros > 0 ? 1 : 0, 1);
    }

    static long trace(LaneSheet sheet, int i) {
        try {
            return sheet.trace(i);
        } catch (NoSuchElementException none) {
            return THROWN;
        }
    }

    static long out(LaneSheet sheet, int i, int what) {
        try {
            return sheet.out(i, what);
        } catch (NoSuchElementException none) {
            return THROWN;
        }
    }

    static long element(LaneSheet sheet, int c, int i) {
        try {
            return sheet.element(c, i);
        } catch (NoSuchElementException none) {
            return THROWN;
        }
    }

    static long within(LaneSheet sheet, int c, int i, int j) {
        try {
            return sheet.within(c, i, j);
        } catch (NoSuchElementException none) {
            return THROWN;
        }
    }

    /** Sheets of one program, a new one when the calls of the old one run out: what comes behind the 512th is free. */
    static final class Supply {
        private final String text;
        private LaneSheet sheet;
        private int left;

        Supply(String text) {
            this.text = text;
        }

        LaneSheet forCalls(int calls) {
            if (left < calls) {
                sheet = of(text);
                left = CALLS_MOST - (text.length() + 19) / 20 - 1;
            }
            left -= calls;
            return sheet;
        }
    }

    /** All that was printed in the latest run, by its values. */
    static String printed(LaneSheet sheet) {
        StringBuilder all = new StringBuilder();
        for (int i = 0; i < Math.min(200, sheet.about(7)); i++) {
            all.append(i == 0 ? "" : " ").append(out(sheet, i, 1));
        }
        return all.toString();
    }

    static void duePrinted(String what, LaneSheet sheet, String want) {
        String got = printed(sheet);
        if (!got.equals(want)) {
            System.out.println(what + " printed [" + got + "], due is [" + want + "]");
        }
        due("what " + what + " printed", got.equals(want) ? 1 : 0, 1);
    }

    /** The statements as a macro without parameters, run to its end. */
    static LaneSheet ran(String statements, String wantPrinted) {
        LaneSheet sheet = of("macro m() { " + statements + " }");
        due("run of " + statements, sheet.run(0, 5000, 0, 0, 0), 0);
        duePrinted(statements, sheet, wantPrinted);
        return sheet;
    }

    /** The statements with a ^ ahead of the token where a FAULT of this kind leaves the run. */
    static LaneSheet faulted(int kind, String marked) {
        String whole = "macro m() { " + marked + " }";
        int place = whole.indexOf('^');
        LaneSheet sheet = of(whole.substring(0, place) + whole.substring(place + 1));
        due("run of " + marked, sheet.run(0, 5000, 0, 0, 0), 1);
        due("kind of " + marked, sheet.about(1), kind);
        due("place of " + marked, sheet.about(2), place);
        if (kind != OWN) {
            due("number of " + marked, sheet.about(3), 0);
        }
        return sheet;
    }
}
