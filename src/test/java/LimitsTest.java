/** STEPS, MADE, KEPT and FAULTS: what is still done, and what no more. */
public final class LimitsTest {
    private static final int CUT = 2;
    private static final int FULL = 3;

    public static void main(String[] args) {
        stepsOf();
        cut();
        stepsInAll();
        made();
        madeInAll();
        kept();
        faultsInAll();
        Sheet.end();
    }

    /** The run ends with just so many STEPS, and is CUT with one less. */
    private static void steps(int want, String statements) {
        LaneSheet sheet = Sheet.of("macro e() { } macro g() i { return 1; } macro m() { " + statements + " }");
        Sheet.due("run of " + statements, sheet.run(2, Math.max(1, want), 0, 0, 0), 0);
        Sheet.due("STEPS of " + statements, sheet.about(4), want);
        Sheet.due("STEPS in all", sheet.about(8), want);
        if (want > 1) {
            Sheet.due("CUT of " + statements, sheet.run(2, want - 1, 0, 0, 0), CUT);
            Sheet.due("STEPS of it", sheet.about(4), want - 1);
            Sheet.due("STEPS in all", sheet.about(8), 2 * want - 1);
        }
    }

    private static void stepsOf() {
        steps(0, "");
        steps(1, "print 1;");
        steps(1, "return;");
        steps(2, "let n = 1; n = 2;");
        steps(2, "if true { print 1; }");
        steps(1, "if false { print 1; }");
        steps(2, "if false { } else { print 1; }");
        steps(2, "if false { } else if false { } else if true { print 1; }");
        steps(2, "while false { }");
        steps(7, "let n = 0; while n < 2 { n = n + 1; }");
        steps(2, "e();");
        steps(3, "g();");
        steps(3, "print g();");
        steps(5, "print g() + g();");
        steps(2, "undo { print 1; }");
        steps(2, "try { print 1; } on any { }");
        steps(4, "try { fail 1; } on any { print 1; } always { print 2; }");
        steps(1, "undo { }");
        steps(3, "A0 = new A 1; A0[0] = 1; copy A0, 0, A0, 0, 1;");
    }

    private static void cut() {
        LaneSheet sheet = Sheet.of("macro m() i { D0 = new D 2; undo { try { D0[0] = 5; print 1; while true { print 2; } }"
            + " on any { print 3; } always { D0[0] = 9; print 4; } } return 1; } macro q() { }");
        Sheet.due("CUT", sheet.run(0, 10, 0, 0, 0), CUT);
        Sheet.due("answer", sheet.about(0), CUT);
        Sheet.due("no FAULT", sheet.about(1), 0);
        Sheet.due("no always, nothing put back", sheet.element(24, 0), 5);
        Sheet.due("result", sheet.result(), 0);
        Sheet.due("STEPS", sheet.about(4), 10);
        Sheet.duePrinted("until then", sheet, "1 2 2");
        Sheet.due("another run", sheet.run(1, 1, 0, 0, 0), 0);
        LaneSheet pending = Sheet.of("macro m() { try { fail 3; } always { while true { } } }");
        Sheet.due("CUT in an always", pending.run(0, 50, 0, 0, 0), CUT);
        Sheet.due("no FAULT left it", pending.about(1), 0);
        Sheet.due("no number", pending.about(3), 0);
        // A call's STEP comes behind its arguments and DEEP.
        LaneSheet call = Sheet.of("macro e(n i) { print 7; } macro g(n i) i { print n; return n; } macro m() { e(g(1)); }");
        Sheet.due("CUT at the call", call.run(2, 4, 0, 0, 0), CUT);
        Sheet.duePrinted("arguments were worked out", call, "1");
        LaneSheet deep = Sheet.of("macro q() { q(); }");
        Sheet.due("DEEP is ahead of the STEP", deep.run(0, 23, 0, 0, 0), 1);
        Sheet.due("its kind", deep.about(1), 8);
        Sheet.due("its STEPS", deep.about(4), 23);
        Sheet.due("CUT", deep.run(0, 22, 0, 0, 0), CUT);
    }

    private static void stepsInAll() {
        LaneSheet sheet = Sheet.of("macro m() { while true { } } macro q() { } macro r() { print 1; }");
        for (int i = 1; i <= 4; i++) {
            Sheet.due("CUT", sheet.run(0, 5000, 0, 0, 0), CUT);
            Sheet.due("STEPS", sheet.about(4), 5000);
            Sheet.due("STEPS in all", sheet.about(8), 5000 * i);
        }
        Sheet.due("no STEP needed", sheet.run(1, 5000, 0, 0, 0), 0);
        Sheet.due("used up", sheet.run(2, 5000, 0, 0, 0), CUT);
        Sheet.due("STEPS", sheet.about(4), 0);
        Sheet.due("nothing done", sheet.about(7), 0);
        Sheet.due("STEPS in all", sheet.about(8), 20000);
    }

    private static void made() {
        LaneSheet sheet = Sheet.of("macro rows(n i) { let k = 0; while k < n { A0 = new A 0; k = k + 1; } }"
            + " macro boxes(n i) { let k = 0; while k < n { K0 = box k; k = k + 1; } }"
            + " macro clones(n i) { A0 = new A 1; let k = 1; while k < n { A1 = clone A0; k = k + 1; } }");
        Sheet.due("1000 rows", sheet.run(0, 5000, 1000, 0, 0), 0);
        Sheet.due("MADE", sheet.about(5), 1000);
        Sheet.due("1001 rows", sheet.run(0, 5000, 1001, 0, 0), FULL);
        Sheet.due("MADE", sheet.about(5), 1000);
        Sheet.due("1001 boxes", sheet.run(1, 5000, 1001, 0, 0), FULL);
        Sheet.due("MADE", sheet.about(5), 1000);
        Sheet.due("the last one", sheet.element(80, 0), 999);
        Sheet.due("1001 clones", sheet.run(2, 5000, 1001, 0, 0), FULL);
        sheet = Sheet.of("macro lists(n i, a i, c i) { let k = 0; while k < n { I0 = new I a, c; k = k + 1; } }"
            + " macro one(a i, c i) { try { I0 = new I a, c; } on any { print 1; } always { print 2; } }"
            + " macro row1(n i) { try { A0 = new A n; } on any { print 1; } always { print 2; } }");
        Sheet.due("30 of 33", sheet.run(0, 5000, 30, 32, 32), 0);
        Sheet.due("MADE", sheet.about(5), 990);
        Sheet.due("31 of 33", sheet.run(0, 5000, 31, 32, 1), FULL);
        Sheet.due("all at once", sheet.about(5), 990);
        Sheet.due("40 of 25", sheet.run(0, 5000, 40, 24, 0), 0);
        Sheet.due("MADE", sheet.about(5), 1000);
        Sheet.due("either count", sheet.run(1, 50, 33, 0, 0), FULL);
        Sheet.due("no always", sheet.about(7), 0);
        Sheet.due("either count", sheet.run(1, 50, 0, 33, 0), FULL);
        Sheet.due("MADE", sheet.about(5), 0);
        Sheet.due("COUNT is ahead", sheet.run(1, 50, 33, -1, 0), 0);
        Sheet.duePrinted("COUNT is ahead", sheet, "1 2");
        Sheet.due("32", sheet.run(2, 50, 32, 0, 0), 0);
        Sheet.due("33", sheet.run(2, 50, 33, 0, 0), FULL);
        Sheet.due("the cell stays", sheet.cell(0, 1), 32);
        Sheet.due("2147483647", sheet.run(2, 50, Integer.MAX_VALUE, 0, 0), FULL);
    }

    private static void madeInAll() {
        LaneSheet sheet = Sheet.of("macro lists(n i, a i) { let k = 0; while k < n { I0 = new I a, 32; k = k + 1; } }"
            + " macro one() { K0 = box 1; }");
        for (int i = 1; i <= 8; i++) {
            Sheet.due("1000", sheet.run(0, 5000, i == 8 ? 39 : 40, 24, 0), 0);
            Sheet.due("MADE in all", sheet.about(9), i == 8 ? 7975 : 1000 * i);
        }
        Sheet.due("7999", sheet.run(0, 5000, 1, 23, 0), 0);
        Sheet.due("8001", sheet.run(0, 5000, 1, 1, 0), FULL);
        Sheet.due("8000", sheet.run(1, 5000, 0, 0, 0), 0);
        Sheet.due("8001", sheet.run(1, 5000, 0, 0, 0), FULL);
        Sheet.due("MADE in all", sheet.about(9), 8000);
        Sheet.due("MADE", sheet.about(5), 0);
        Sheet.due("elements are still there", sheet.within(64, 22, 31), 0);
    }

    private static void kept() {
        String fill = "let k = 0; while k < n { copy D0, 0, D0, 0, 32; k = k + 1; }";
        LaneSheet sheet = Sheet.of("macro m(n i, r i) { D0 = new D 32; D0[1] = 7; undo { " + fill + " let j = 0; while j < r"
            + " { D0[1] = j; j = j + 1; } } print 1; }"
            + " macro twice(n i) { D0 = new D 32; let j = 0; while j < 2 { undo { " + fill + " } j = j + 1; } }"
            + " macro inner(n i) { D0 = new D 32; undo { let j = 0; while j < 2 { try { undo { " + fill
            + " fail 1; } } on own { } j = j + 1; } } }"
            + " macro cells1() { D0 = new D 32; undo { let n = 125; " + fill + " D1 = D0; } }"
            + " macro nums() { D0 = new D 32; J0 = new J 1; J0[0] = note 1, 1; undo { let n = 125; " + fill
            + " J0[0].num = 5; } }"
            + " macro without() { D0 = new D 32; let n = 200; " + fill + " }"
            + " macro place1() { D0 = new D 32; undo { let n = 125; " + fill + " try { copy D0, 1, D0, 0, 32; } on place"
            + " { print 1; } try { D0[32] = 1; } on place { print 2; } copy D0, 0, D0, 0, 0; print 3; copy D0, 0, D0, 0, 1; } }");
        Sheet.due("4000", sheet.run(0, 5000, 125, 0, 0), 0);
        Sheet.due("4001", sheet.run(0, 5000, 125, 1, 0), FULL);
        Sheet.due("and not done", sheet.element(24, 1), 7);
        Sheet.due("4000", sheet.run(0, 5000, 124, 32, 0), 0);
        Sheet.due("done", sheet.element(24, 1), 31);
        Sheet.due("4001", sheet.run(0, 5000, 124, 33, 0), FULL);
        Sheet.due("nothing put back", sheet.element(24, 1), 31);
        Sheet.due("a copy beyond", sheet.run(0, 5000, 126, 0, 0), FULL);
        Sheet.due("since the outermost began", sheet.run(1, 5000, 125, 0, 0), 0);
        Sheet.due("also what was put back", sheet.run(2, 5000, 62, 0, 0), 0);
        Sheet.due("also what was put back", sheet.run(2, 5000, 63, 0, 0), FULL);
        Sheet.due("a cell", sheet.run(3, 5000, 0, 0, 0), FULL);
        Sheet.due("and not done", sheet.cell(25, 0), 0);
        Sheet.due("a NUM", sheet.run(4, 5000, 0, 0, 0), FULL);
        Sheet.due("and not done", sheet.within(72, 0, 0), 1);
        Sheet.due("no UNDO", sheet.run(5, 5000, 0, 0, 0), 0);
        Sheet.due("FAULTS come first", sheet.run(6, 5000, 0, 0, 0), FULL);
        Sheet.duePrinted("FAULTS come first", sheet, "1 2 3");
    }

    private static void faultsInAll() {
        // Each try has two FAULTS more for three STEPS, so that 6000 come before 20000 STEPS are used up.
        String nested = "fail 1;";
        for (int i = 0; i < 6; i++) {
            nested = "try { " + nested + " } on any { fail 2; } always { fail 3; }";
        }
        LaneSheet sheet = Sheet.of("macro m() { while true { try { " + nested + " } on any { } } }"
            + " macro q() { try { fail 1; } on any { print 1; } always { print 2; } } macro r() { fail 5; } macro s() { r(); }");
        Sheet.due("one that leaves the run", sheet.run(3, 50, 0, 0, 0), 1);
        Sheet.due("FAULTS in all", sheet.about(10), 1);
        int answer = 0;
        for (int runs = 0; runs < 3 && answer != FULL; runs++) {
            answer = sheet.run(0, 5000, 0, 0, 0);
        }
        Sheet.due("FULL", answer, FULL);
        Sheet.due("FAULTS in all", sheet.about(10), 6000);
        Sheet.due("STEPS are left", sheet.about(8) < 19900 ? 1 : 0, 1);
        Sheet.due("no more of them", sheet.run(1, 50, 0, 0, 0), FULL);
        Sheet.due("FAULTS in all", sheet.about(10), 6000);
        Sheet.due("nothing more is done", sheet.about(7), 0);
        Sheet.due("no FAULT", sheet.about(1), 0);
        Sheet.due("no TRACE", sheet.about(6), 0);
        Sheet.due("no more of them", sheet.run(3, 50, 0, 0, 0), FULL);
    }
}
