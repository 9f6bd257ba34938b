import java.util.ArrayList;
import java.util.Arrays;
import java.util.List;
import java.util.Random;

/** Texts with a few wrong tokens, and calls with odd numbers: every call answers, and FAULTS stand within the text. */
public final class BrokenTextsTest {
    private static final String[] TOKENS = ("macro let if else while try on always undo fail return print copy new clone none"
        + " box note seal num mark size worth same is as and or not true false nan inf i l f d t missing place count kind"
        + " element zero own deep any int long float double byte short sign bits real abs min max floor ceil rint sqrt"
        + " signum round ulp up down copysign fma scalb exponent nans { } ( ) [ ] , ; . = + - * / % < <= > >= == != A0 B1"
        + " C2 D3 E4 F5 G6 H7 I0 J0 K0 K1 A B I J N S 0 1 2 33 5l 1.5 2.5f 'a' m n q r").split(" ");
    private static final String TEXT = "macro m(n i) i { let q = n; try { A0 = new A n; J0 = new J 2; J0[0] = box 1; undo {"
        + " K0 = J0; A0[n] = 3; fail q; } } on any e { print e; } always { print 2; } while q < 5 { q = q + 1; if K0 is J"
        + " and not J0[0] is seal { K1 = K0 as J; } else { copy A0, 0, A0, 1, 1; } } I0 = new I 2, 3; I0[1][2] = size I0[0];"
        + " J0[0].num = worth(note 1, 2); return q + int(fma(1.5, n, abs(2.5f)) % 0.7); }"
        + " macro w(k i) { if k > 0 { w(k - 1); } m(k); }";
    private static final int[] ODD = {Integer.MIN_VALUE, -2, -1, 0, 1, 2, 7, 31, 32, 64, 72, 80, 87, 88, 200, Integer.MAX_VALUE};

    public static void main(String[] args) {
        Random random = new Random(512);
        String[] whole = TEXT.replaceAll("([(){}\\[\\],;])", " $1 ").trim().split(" +");
        int fine = 0;
        for (int n = 0; n < 40000; n++) {
            String text = n % 10 == 0 ? randomText(random) : changed(whole, random);
            LaneSheet sheet = new LaneSheet();
            int macros = Sheet.compile(sheet, text);
            if (macros > 0) {
                fine++;
                workOn(sheet, macros, random);
            } else {
                checkFault(sheet, text);
            }
        }
        Sheet.due("some are fine, some are not", fine > 4000 && fine < 36000 ? 1 : 0, 1);
        Sheet.end();
    }

    private static String randomText(Random random) {
        StringBuilder text = new StringBuilder("macro m ( ) { ");
        int count = random.nextInt(60);
        for (int i = 0; i < count; i++) {
            text.append(TOKENS[random.nextInt(TOKENS.length)]).append(' ');
        }
        return text.toString();
    }

    private static String changed(String[] whole, Random random) {
        List<String> tokens = new ArrayList<>(Arrays.asList(whole));
        int changes = random.nextInt(4);
        for (int i = 0; i < changes; i++) {
            int place = random.nextInt(tokens.size());
            int way = random.nextInt(3);
            if (way == 0) {
                tokens.remove(place);
            } else if (way == 1) {
                tokens.set(place, TOKENS[random.nextInt(TOKENS.length)]);
            } else {
                tokens.add(place, TOKENS[random.nextInt(TOKENS.length)]);
            }
        }
        return String.join(" ", tokens);
    }

    private static void checkFault(LaneSheet sheet, String text) {
        int kind = sheet.fault(0);
        int place = sheet.fault(1);
        Sheet.due("kind " + kind + " of " + text, kind >= 1 && kind <= 6 ? 1 : 0, 1);
        Sheet.due("place " + place + " of " + text, place >= 0 && place <= text.length() ? 1 : 0, 1);
        if (kind == 2) {
            // What is ahead of a token that can't stand there has no FAULT but that it ends.
            LaneSheet ahead = new LaneSheet();
            int macros = Sheet.compile(ahead, text.substring(0, place));
            Sheet.due("ahead of " + place + " in " + text, macros > 0 || ahead.fault(1) == place ? 1 : 0, 1);
        }
    }

    private static void workOn(LaneSheet sheet, int macros, Random random) {
        for (int macro = -1; macro <= macros; macro++) {
            int answer = sheet.run(macro, 1 + random.nextInt(300), random.nextInt(6) - 2, random.nextLong(), random.nextLong());
            boolean isMacro = macro >= 0 && macro < macros;
            Sheet.due("run", isMacro ? (answer >= 0 && answer <= 3 ? 1 : 0) : answer, isMacro ? 1 : -1);
        }
        int a = ODD[random.nextInt(ODD.length)];
        int b = ODD[random.nextInt(ODD.length)];
        int c = ODD[random.nextInt(ODD.length)];
        sheet.cell(a, b);
        sheet.about(a);
        sheet.fault(a);
        Sheet.element(sheet, a, b);
        Sheet.within(sheet, a, b, c);
        Sheet.out(sheet, a, b);
        Sheet.trace(sheet, a);
        sheet.run(a, b, c, c, c);
        sheet.compile(a);
        sheet.feed(a, b, c, a, b);
        sheet.clear();
        Sheet.due("cleared", sheet.cell(0, 0), 0);
    }
}
