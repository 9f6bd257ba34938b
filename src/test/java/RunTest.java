/** Promises 5 to 9: runs, their FAULTS and where these go, what they returned, traced and printed. */
public final class RunTest {
    private static final int MISSING = 1;
    private static final int PLACE = 2;
    private static final int COUNT = 3;
    private static final int KIND = 4;
    private static final int ELEMENT = 5;
    private static final int ZERO = 6;
    private static final int OWN = 7;
    private static final int DEEP = 8;

    public static void main(String[] args) {
        before();
        wrongRuns();
        parameters();
        control();
        order();
        reads();
        stores();
        things();
        copies();
        taken();
        always();
        undo();
        traces();
        printing();
        Sheet.end();
    }

    private static void before() {
        LaneSheet sheet = new LaneSheet();
        Sheet.due("result() of a new one", sheet.result(), 0);
        Sheet.due("about(0) of a new one", sheet.about(0), -1);
        for (int what = 1; what <= 10; what++) {
            Sheet.due("about(" + what + ") of a new one", sheet.about(what), 0);
        }
        Sheet.due("about(11)", sheet.about(11), -1);
        Sheet.due("about(-1)", sheet.about(-1), -1);
        Sheet.due("trace(0)", Sheet.trace(sheet, 0), Sheet.THROWN);
        Sheet.due("out(0, 0)", Sheet.out(sheet, 0, 0), Sheet.THROWN);
        Sheet.due("run", sheet.run(0, 1, 0, 0, 0), -1);
        Sheet.due("about(0) behind no run", sheet.about(0), -1);
    }

    private static void wrongRuns() {
        LaneSheet sheet = Sheet.of("macro a(p i, q i, r i) i { print 1; return p; } macro c(p i, q i, r i, s i) { }");
        Sheet.due("a", sheet.run(0, 5000, 9, 0, 0), 0);
        Sheet.due("no macro", sheet.run(2, 5, 0, 0, 0), -1);
        Sheet.due("no macro", sheet.run(-1, 5, 0, 0, 0), -1);
        Sheet.due("four parameters", sheet.run(1, 5, 0, 0, 0), -1);
        Sheet.due("0 steps", sheet.run(0, 0, 0, 0, 0), -1);
        Sheet.due("-1 steps", sheet.run(0, -1, 0, 0, 0), -1);
        Sheet.due("5001 steps", sheet.run(0, 5001, 0, 0, 0), -1);
        Sheet.due("nothing changed", sheet.result(), 9);
        Sheet.due("nothing changed", sheet.about(7), 1);
        Sheet.due("nothing changed", sheet.about(8), 2);
    }

    private static void parameters() {
        String text = "macro i1(a i) i { return a; } macro l1(a l) l { return a; } macro f1(a f) f { return a; }"
            + " macro d1(a d) d { return a; } macro t1(a t) t { return a; } macro v1(a i) { } macro three(a i, c t, e l) l"
            + " { if c { return a; } return e; }";
        LaneSheet sheet = Sheet.of(text);
        long odd = 0x123456789abcdef0L;
        long[] want = {(int) odd, odd, (int) odd, odd, 1, 0};
        for (int m = 0; m < want.length; m++) {
            Sheet.due("macro " + m, sheet.run(m, 5, odd, 0, 0), 0);
            Sheet.due("result of " + m, sheet.result(), want[m]);
        }
        sheet.run(2, 5, 0xbf800000L, 0, 0);
        Sheet.due("-1.0f", sheet.result(), 0xffffffffbf800000L);
        sheet.run(4, 5, 0, 0, 0);
        Sheet.due("false", sheet.result(), 0);
        sheet.run(4, 5, 0x100000000L, 0, 0);
        Sheet.due("true", sheet.result(), 1);
        sheet.run(6, 5, 5, 0, 77);
        Sheet.due("the third", sheet.result(), 77);
        sheet.run(6, 5, 0xfffffffffL, -1, 77);
        Sheet.due("the first", sheet.result(), -1);
    }

    private static void control() {
        Sheet.ran("let n = 0; while n < 3 { print n; n = n + 1; } print 9;", "0 1 2 9");
        Sheet.ran("let n = 0; while n < 4 { if n == 0 { print 10; } else if n == 1 { print 11; } else if n == 2 { print 12; }"
            + " else { print 13; } n = n + 1; }", "10 11 12 13");
        Sheet.ran("if false { print 1; } else if false { print 2; } print 3;", "3");
        Sheet.ran("print 1 + 2 * 3 - 4 / 2 % 3; print (1 + 2) * 3; print - 2 * - 3; print - - 2; print 10 - 3 - 2;"
            + " print 100 / 10 / 5; print 17 % 10 % 4;", "5 9 6 2 5 2 3");
        Sheet.ran("print true or false and false; print not false and false; print not (false and false);"
            + " print not 1 < 2; print 1 + 1 == 2 and 3 > 2; print true == false; print true != false;",
            "1 0 1 0 1 0 1");
        Sheet.ran("print 7 / 2; print - 7 / 2; print 7 % 2; print - 7 % 2; print 7 % - 2;", "3 -3 1 -1 1");
        Sheet.ran("print 2147483647 + 1; print - 2147483647 - 2; print 65536 * 65536; print 2147483647 + 1l;",
            "-2147483648 2147483647 0 2147483648");
        LaneSheet fib = Sheet.of("macro fib(n i) i { if n < 2 { return n; } return fib(n - 1) + fib(n - 2); }");
        Sheet.due("fib", fib.run(0, 5000, 10, 0, 0), 0);
        Sheet.due("fib(10)", fib.result(), 55);
        LaneSheet own = Sheet.of("macro q(n i) i { let k = n; if n > 0 { let r = q(n - 1); k = k * 10 + r; } return k; }");
        own.run(0, 5000, 3, 0, 0);
        Sheet.due("NAMES of its own", own.result(), 30 + 20 + 10);
        LaneSheet params = Sheet.of("macro s(a i, c l, e f, g d, h t, j i) d { if h { return a + c + e + g + j; } return 0; }"
            + " macro m() d { return s(1, 2, 3, 4, true, 5); } macro n() { s(1, 2, 3, 4, false, 5); print 1; }");
        params.run(1, 9, 0, 0, 0);
        Sheet.due("six parameters", params.result(), Double.doubleToLongBits(15));
        params.run(2, 9, 0, 0, 0);
        Sheet.due("result of a macro without TYPE", params.result(), 0);
        Sheet.duePrinted("a call of a TYPE as a statement", params, "1");
    }

    /** From left to right, and only what must be worked out. */
    private static void order() {
        LaneSheet sheet = Sheet.of("macro p(n i) i { print n; return n; } macro q(n i) t { print n; return n > 0; }"
            + " macro m() { print p(1) + p(2) * p(3); print q(0) and q(5); print q(1) or q(5); print q(1) and q(0);"
            + " print q(0) or q(1); print max(p(8), p(9)); }"
            + " macro stores() { A0 = new A 5; A0[p(1)] = p(2); I0 = new I 2, 3; I0[p(0)][p(1)] = p(2);"
            + " J0 = new J 3; J0[p(0)] = note p(1), p(2); J0[p(0)].num = p(3); copy A0, p(0), A0, p(1), p(2); }"
            + " macro drop() i { A0 = none; return 1; }"
            + " macro row() { A0 = new A 5; A1 = A0; A0[drop()] = 7; print A1[1]; A0 = A1; print A0[drop()];"
            + " A0 = A1; A0[0] = drop(); print A1[0]; A0 = A1; copy A0, drop(), A1, 3, 1; print A1[3]; }");
        sheet.run(2, 500, 0, 0, 0);
        Sheet.duePrinted("order", sheet, "1 2 3 7 0 0 1 1 1 0 0 0 1 1 8 9 9");
        sheet.run(3, 500, 0, 0, 0);
        Sheet.duePrinted("order of stores", sheet, "1 2 0 1 2 0 1 2 0 3 0 1 2");
        Sheet.due("rows are taken first", sheet.run(5, 500, 0, 0, 0), 0);
        Sheet.duePrinted("rows are taken first", sheet, "7 7 1 7");
    }

    private static void reads() {
        Sheet.faulted(MISSING, "print ^A0[0];");
        Sheet.faulted(MISSING, "print 1 + ^A0[- 1];");
        Sheet.faulted(ZERO, "print A0[1 ^/ 0];");
        Sheet.faulted(PLACE, "A0 = new A 3; print ^A0[3];");
        Sheet.faulted(PLACE, "A0 = new A 3; print ^A0[- 1];");
        Sheet.faulted(PLACE, "A0 = new A 0; print ^A0[0];");
        Sheet.faulted(MISSING, "print ^I0[0][1 / 0];");
        Sheet.faulted(PLACE, "I0 = new I 2; print ^I0[2][1 / 0];");
        Sheet.faulted(ZERO, "I0 = new I 2; print I0[1][1 ^/ 0];");
        Sheet.faulted(MISSING, "I0 = new I 2; print ^I0[1][5];");
        Sheet.faulted(PLACE, "I0 = new I 2, 3; print ^I0[1][3];");
        Sheet.faulted(MISSING, "print ^J0[0].num;");
        Sheet.faulted(MISSING, "J0 = new J 1; print ^J0[0].num;");
        Sheet.faulted(MISSING, "J0 = new J 1; print ^J0[0].mark;");
        Sheet.faulted(PLACE, "J0 = new J 1; print ^J0[1].mark;");
        Sheet.faulted(KIND, "J0 = new J 1; J0[0] = box 1; print ^J0[0].mark;");
        Sheet.ran("J0 = new J 2; J0[0] = note 9, 8; J0[1] = seal 7, 6; print J0[0].num; print J0[0].mark; print J0[1].num;"
            + " print J0[1].mark;", "9 8 7 6");
        Sheet.faulted(MISSING, "print ^J0[0] is box;");
        Sheet.faulted(PLACE, "J0 = new S 1; print not ^J0[1] is seal;");
        Sheet.faulted(MISSING, "print ^size A0;");
        Sheet.faulted(MISSING, "print ^size K0;");
        Sheet.faulted(KIND, "K0 = box 1; print 1 + ^size K0;");
        Sheet.faulted(MISSING, "print size ^I0[0];");
        Sheet.faulted(PLACE, "I0 = new I 2; print size ^I0[2];");
        Sheet.faulted(MISSING, "I0 = new I 2; print ^size I0[1];");
        Sheet.ran("I0 = new I 2, 5; print size I0; print size I0[1]; K0 = I0; print size K0; K0 = new S 32; print size K0;",
            "2 5 2 32");
        Sheet.faulted(ZERO, "print 1 + 5 ^% 0;");
        Sheet.faulted(ZERO, "print 5l ^/ 0;");
        Sheet.ran("print 5.0 / 0; print nans(0.0 % 0); print 5 / 0.0f;",
            "9218868437227405312 1 2139095040");
    }

    private static void stores() {
        Sheet.faulted(MISSING, "^A0[0] = 1;");
        Sheet.faulted(ZERO, "A0[0] = 1 ^/ 0;");
        Sheet.faulted(ZERO, "A0[1 ^/ 0] = 1 % 0;");
        Sheet.faulted(PLACE, "A0 = new A 1; ^A0[1] = 1;");
        Sheet.faulted(ZERO, "A0 = new A 1; A0[- 1] = 1 ^% 0;");
        Sheet.faulted(MISSING, "^I0[0][1 / 0] = 1;");
        Sheet.faulted(PLACE, "I0 = new I 1; ^I0[1][1 / 0] = 1;");
        Sheet.faulted(ZERO, "I0 = new I 1; I0[0][1 ^/ 0] = 1;");
        Sheet.faulted(ZERO, "I0 = new I 1; I0[0][5] = 1 ^/ 0;");
        Sheet.faulted(MISSING, "I0 = new I 1; ^I0[0][5] = 1;");
        Sheet.faulted(PLACE, "I0 = new I 1, 5; ^I0[0][5] = 1;");
        Sheet.faulted(MISSING, "^I0[0] = none;");
        Sheet.faulted(PLACE, "I0 = new I 1; ^I0[1] = none;");
        Sheet.faulted(COUNT, "I0[1] = ^new D - 1;");
        Sheet.faulted(MISSING, "^J0[0].num = 1 / 0;");
        Sheet.faulted(ZERO, "J0 = new J 1; J0[0].num = 1 ^/ 0;");
        Sheet.faulted(MISSING, "J0 = new J 1; ^J0[0].num = 1;");
        Sheet.faulted(MISSING, "J0 = new J 1; ^J0[0].mark = 1;");
        Sheet.faulted(ZERO, "J0 = new J 1; J0[0] = box 1; J0[0].mark = 1 ^/ 0;");
        Sheet.faulted(KIND, "J0 = new J 1; J0[0] = box 1; ^J0[0].mark = 1;");
        Sheet.faulted(ELEMENT, "J0 = new N 1; ^J0[0] = box 1;");
        Sheet.faulted(ELEMENT, "J0 = new S 1; ^J0[0] = note 1, 1;");
        Sheet.faulted(PLACE, "J0 = new S 1; ^J0[1] = note 1, 1;");
        Sheet.ran("J0 = new N 3; J0[0] = note 1, 2; J0[1] = seal 3, 4; J0[1] = none; J0[2] = J0[0]; J0[2].num = 9l;"
            + " J0[0].mark = - 5; print J0[0].num; print J0[2].mark; print J0[1] is box; J1 = new S 1; J1[0] = none;"
            + " J1[0] = seal 1, 1; print J1[0] is note;", "9 -5 0 1");
        Sheet.ran("A0 = new A 3; A0[0] = 127; A0[1] = 128; A0[2] = - 129; print A0[0]; print A0[1]; print A0[2];",
            "127 -128 127");
        Sheet.ran("B0 = new B 2; B0[0] = - 1; B0[1] = 65536; print B0[0]; print B0[1];", "65535 0");
        Sheet.ran("C0 = new C 2; C0[0] = 32768; C0[1] = - 32769; print C0[0]; print C0[1];", "-32768 32767");
        Sheet.ran("D0 = new D 1; D0[0] = - 2147483647 - 1; print D0[0];", "-2147483648");
        Sheet.ran("E0 = new E 2; E0[0] = 9223372036854775807l; E0[1] = 5; print E0[0]; print E0[1];",
            "9223372036854775807 5");
        Sheet.ran("F0 = new F 3; F0[0] = 1; F0[1] = 16777217l; F0[2] = 0.5f; print F0[0]; print F0[1]; print F0[2];"
            + " print F0[0] + F0[2];", "1065353216 1266679808 1056964608 1069547520");
        Sheet.ran("G0 = new G 4; G0[0] = 1; G0[1] = 1l; G0[2] = 1.0f; G0[3] = 1.0; print G0[0] == G0[1] and G0[2] == G0[3];"
            + " print G0[0];", "1 4607182418800017408");
        Sheet.ran("H0 = new H 2; print H0[0]; H0[1] = not H0[0]; print H0[1];", "0 1");
        Sheet.ran("D0 = new D 2; D1 = D0; K0 = D0; D1[1] = 5; print D0[1]; D2 = clone D0; D2[1] = 6; print D0[1];"
            + " D3 = K0 as D; D3[1] = 7; print D0[1];", "5 5 7");
        Sheet.ran("I0 = new I 2, 2; D0 = I0[0]; D0[1] = 8; print I0[0][1]; I0[1] = D0; I0[1][1] = 9; print D0[1];"
            + " print same(I0[0], I0[1]); I1 = clone I0; I1[0][1] = 10; print D0[1]; I1[0] = none; print size I0[0];",
            "8 9 1 10 2");
    }

    private static void things() {
        Sheet.ran("K0 = new J 1; K1 = new N 1; K2 = new S 1; print K0 is J; print K1 is J; print K2 is J; print K0 is N;"
            + " print K1 is N; print K2 is N; print K0 is S; print K1 is S; print K2 is S; print K2 is D; print K3 is J;",
            "1 1 1 0 1 1 0 0 1 0 0");
        Sheet.ran("K0 = box 1; K1 = note 1, 2; K2 = seal 1, 2; print K0 is box; print K1 is box; print K2 is box;"
            + " print K0 is note; print K1 is note; print K2 is note; print K0 is seal; print K1 is seal; print K2 is seal;"
            + " print K0 is J; print K3 is box;", "1 1 1 0 1 1 0 0 1 0 0");
        Sheet.ran("J0 = new J 4; J0[0] = box 1; J0[1] = note 1, 2; J0[2] = seal 1, 2; print J0[0] is note;"
            + " print J0[1] is note; print J0[2] is note; print J0[2] is seal; print J0[3] is box;", "0 1 1 1 0");
        Sheet.ran("J0 = K0 as J; D0 = K0 as D; K1 = K0 as box; K1 = K0 as seal; K0 = new N 2; J0 = K0 as J; J0 = K0 as N;"
            + " print size J0; K0 = seal 3, 4; print worth(K0 as box); print worth(K0 as note); print worth(K0 as seal);",
            "2 14 14 14");
        Sheet.faulted(KIND, "K0 = new N 2; J0 = ^K0 as S;");
        Sheet.faulted(KIND, "K0 = new J 2; J0 = ^K0 as N;");
        Sheet.faulted(KIND, "K0 = new A 2; K1 = ^K0 as box;");
        Sheet.faulted(KIND, "K0 = box 2; K1 = ^K0 as note;");
        Sheet.faulted(KIND, "K0 = note 2, 2; print worth(^K0 as seal);");
        Sheet.faulted(KIND, "K0 = box 2; A0 = ^K0 as A;");
        Sheet.faulted(MISSING, "A1 = ^clone A0;");
        Sheet.faulted(MISSING, "print same(A0, ^clone K0);");
        Sheet.faulted(COUNT, "A0 = ^new A - 1;");
        Sheet.faulted(COUNT, "I0 = ^new I - 1, 1;");
        Sheet.faulted(COUNT, "I0 = ^new I 1, - 1;");
        Sheet.faulted(COUNT, "I0 = ^new I 33, - 1;");
        Sheet.faulted(ZERO, "I0 = new I - 1, 1 ^/ 0;");
        Sheet.faulted(MISSING, "print ^worth(none);");
        Sheet.faulted(MISSING, "J0 = new J 1; print 1 + ^worth(J0[0]);");
        Sheet.faulted(PLACE, "J0 = new J 1; print worth(^J0[1]);");
        Sheet.faulted(MISSING, "print ^worth(K0 as box);");
        Sheet.faulted(MISSING, "K0 = ^I0[1];");
        Sheet.faulted(PLACE, "J0 = new J 1; print same(none, ^J0[1]);");
        Sheet.ran("print worth(box 5); print worth(note 5, 6); print worth(seal 5, 6); print worth(note 9223372036854775807l, 1);",
            "5 11 22 -9223372036854775808");
        Sheet.ran("print same(none, A0); print same(A0, B0); A0 = new A 0; print same(A0, none); A1 = A0; print same(A0, A1);"
            + " print same(A0, clone A0); K0 = A1; print same(K0, A0); J0 = new J 2; J0[0] = box 1; K1 = J0[0];"
            + " print same(K1, J0[0]); print same(J0[0], J0[1]); print same(J0[1], none); print same(box 1, box 1);",
            "1 1 0 1 0 1 1 0 1 0");
        LaneSheet sheet = Sheet.ran("K0 = note 5, 6; K1 = clone K0; K2 = K0 as box; J0 = new J 1; J0[0] = K0 as note;"
            + " J0[0].num = 7; print worth(K0 as box); print worth(K1 as box); print worth(K2 as box); K3 = seal 1, 1;"
            + " K4 = clone K3; print K4 is seal;", "13 11 13 1");
        Sheet.due("MADE", sheet.about(5), 5);
    }

    private static void copies() {
        Sheet.ran("A0 = new A 5; A0[0] = 1; A0[1] = 2; A0[2] = 3; copy A0, 0, A0, 1, 3; print A0[0]; print A0[1]; print A0[2];"
            + " print A0[3]; copy A0, 1, A0, 0, 4; print A0[0]; print A0[1]; print A0[2]; print A0[3]; print A0[4];",
            "1 1 2 3 1 2 3 0 0");
        Sheet.ran("A0 = new A 3; A1 = new A 0; copy A0, 3, A1, 0, 0; copy A0, 0, A0, 3, 0; K0 = A0; A0[2] = 9;"
            + " copy K0, 2, A0, 0, 1; print A0[0];", "9");
        Sheet.faulted(MISSING, "^copy A0, 0, B0, 0, - 1;");
        Sheet.faulted(MISSING, "A0 = new A 1; ^copy A0, 0, K0, 0, 1;");
        Sheet.faulted(MISSING, "K1 = box 1; ^copy K1, 0, K0, 0, 1;");
        Sheet.faulted(ZERO, "copy A0, 1 ^/ 0, K0, 0, 1;");
        Sheet.faulted(ELEMENT, "A0 = new A 1; B0 = new B 1; ^copy A0, 0, B0, 0, - 1;");
        Sheet.faulted(ELEMENT, "A0 = new A 1; K0 = box 1; ^copy A0, 0, K0, 0, 0;");
        Sheet.faulted(ELEMENT, "K0 = box 1; K1 = box 1; ^copy K1, 0, K0, 0, 0;");
        Sheet.faulted(ELEMENT, "D0 = new D 1; I0 = new I 1; ^copy D0, 0, I0, 0, 0;");
        Sheet.faulted(PLACE, "A0 = new A 3; ^copy A0, - 1, A0, 0, 1;");
        Sheet.faulted(PLACE, "A0 = new A 3; ^copy A0, 0, A0, - 1, 1;");
        Sheet.faulted(PLACE, "A0 = new A 3; ^copy A0, 0, A0, 0, - 1;");
        Sheet.faulted(PLACE, "A0 = new A 3; ^copy A0, 2, A0, 0, 2;");
        Sheet.faulted(PLACE, "A0 = new A 3; ^copy A0, 0, A0, 2, 2;");
        Sheet.faulted(PLACE, "A0 = new A 3; ^copy A0, 4, A0, 0, 0;");
        Sheet.faulted(PLACE, "A0 = new A 3; ^copy A0, 2147483647, A0, 0, 2147483647;");
        LaneSheet part = Sheet.faulted(ELEMENT, "J0 = new J 4; J0[0] = note 1, 1; J0[2] = box 2; J0[3] = seal 1, 1;"
            + " J1 = new N 4; J1[1] = note 5, 5; J1[3] = note 6, 6; ^copy J0, 0, J1, 0, 4;");
        Sheet.due("those ahead stay", part.element(73, 0), 2);
        Sheet.due("those ahead stay", part.element(73, 1), 0);
        Sheet.due("not it", part.element(73, 2), 0);
        Sheet.due("nor those behind", part.element(73, 3), 2);
        Sheet.ran("I0 = new I 2; J0 = new J 2; copy I0, 0, J0, 0, 2; copy J0, 0, I0, 0, 2; J1 = new S 2; copy J0, 0, J1, 0, 2;"
            + " J1[0] = seal 1, 2; copy J1, 0, J0, 1, 1; print same(J0[1], J1[0]); I0[0] = new D 1; I1 = new I 3;"
            + " copy I0, 0, I1, 2, 1; print same(I0[0], I1[2]);", "1 1");
        Sheet.faulted(ELEMENT, "I0 = new I 1, 1; J0 = new J 1; ^copy I0, 0, J0, 0, 1;");
        Sheet.faulted(ELEMENT, "I0 = new I 1; J0 = new J 1; J0[0] = box 1; ^copy J0, 0, I0, 0, 1;");
        Sheet.faulted(ELEMENT, "J0 = new N 1; J1 = new S 1; J0[0] = note 1, 1; ^copy J0, 0, J1, 0, 1;");
    }

    private static void taken() {
        String[] faults = {"print A0[0];", "print B0[9];", "A1 = new A - 1;", "print size K0;", "J1[0] = box 1;",
            "print 1 / 0;", "fail 55;", "sink();"};
        String[] kinds = {"missing", "place", "count", "kind", "element", "zero", "own", "deep"};
        for (int i = 0; i < faults.length; i++) {
            for (int j = 0; j < kinds.length; j++) {
                String text = "macro sink() { sink(); } macro m() { B0 = new B 1; K0 = box 1; J1 = new N 1; try { print 1; "
                    + faults[i] + " print 2; } on " + kinds[j] + " e { print 3; print e; } on any e { print 4; print e; }"
                    + " print 5; }";
                LaneSheet sheet = Sheet.of(text);
                Sheet.due(faults[i], sheet.run(1, 500, 0, 0, 0), 0);
                Sheet.duePrinted(faults[i] + " on " + kinds[j], sheet,
                    (i == j ? "1 3 " : "1 4 ") + (i == 6 ? 55 : i + 1) + " 5");
                Sheet.due("about(1) of one that was taken", sheet.about(1), 0);
                Sheet.due("about(2) of one that was taken", sheet.about(2), 0);
                Sheet.due("FAULTS in all", sheet.about(10), 1);
            }
        }
        Sheet.ran("try { fail 1; } on any { print 1; } on own { print 2; }", "1");
        Sheet.ran("try { try { fail 1; } on zero { print 1; } print 2; } on own e { print e; }", "1");
        Sheet.ran("try { try { fail 1; } on own { fail 2; } on any { print 1; } } on own e { print e; }", "2");
        Sheet.ran("try { print 1; } on any { print 2; }", "1");
        Sheet.ran("let n = 0; while n < 3 { try { n = n + 1; fail n; } on own e { print e * 10; } }", "10 20 30");
        LaneSheet sheet = Sheet.of("macro q(n i) i { if n == 0 { fail - 8; } return q(n - 1); }"
            + " macro m() i { let a = 5; try { return 1 + q(3) * a; } on own e { let r = e + a; return r; } }");
        sheet.run(1, 500, 0, 0, 0);
        Sheet.due("NAMES are those of its macro", sheet.result(), -3);
        LaneSheet own = Sheet.faulted(OWN, "try { ^fail - 7; } on zero { }");
        Sheet.due("OWN's number", own.about(3), -7);
        Sheet.due("result of a FAULT", own.result(), 0);
        LaneSheet zero = Sheet.faulted(ZERO, "try { fail - 7; } on own { print 1 ^/ 0; }");
        Sheet.due("no number", zero.about(3), 0);
        LaneSheet deep = Sheet.of("macro q(n i) { print n; q(n + 1); }");
        Sheet.due("deep", deep.run(0, 500, 1, 0, 0), 1);
        Sheet.due("deep", deep.about(1), DEEP);
        Sheet.due("deep at its name", deep.about(2), 24);
        Sheet.duePrinted("twelve under way", deep, "1 2 3 4 5 6 7 8 9 10 11 12");
        Sheet.due("arguments first", Sheet.of("macro q(n i) i { print n; if n == 12 { return q(1 / 0); } return q(n + 1); }")
            .run(0, 500, 1, 0, 0), 1);
    }

    private static void always() {
        Sheet.ran("try { print 1; } always { print 2; } print 3;", "1 2 3");
        Sheet.ran("try { fail 1; } on own { print 1; } always { print 2; } print 3;", "1 2 3");
        Sheet.ran("try { try { fail 1; } always { print 2; } print 3; } on own { print 4; } always { print 5; }", "2 4 5");
        Sheet.ran("try { try { fail 1; } on own { fail 2; } always { print 2; } } on own e { print e + 100; }", "2 102");
        Sheet.ran("try { try { fail 1; } always { fail 9; } } on own e { print e; }", "9");
        Sheet.ran("try { fail 1; } on own e { print e; } always { try { fail 3; } on own e { print e; } always { print 4; } }",
            "1 3 4");
        Sheet.ran("try { print 1; return; } always { print 2; } print 3;", "1 2");
        Sheet.ran("try { fail 5; } on own e { print e; return; } always { print 2; } print 3;", "5 2");
        Sheet.ran("try { fail 5; } always { return; } print 3;", "");
        Sheet.ran("let n = 0; while true { try { n = n + 1; if n == 3 { return; } } always { print n; } }", "1 2 3");
        String text = "macro a() i { try { return 1; } always { print 7; } }"
            + " macro c() i { try { return 1; } always { return 2; } }"
            + " macro e() i { try { try { return 1; } always { fail 3; } } on own e1 { return e1; } }"
            + " macro g() i { try { return 1; } always { try { fail 2; } on any { } } }"
            + " macro h() i { try { return k1(); } always { print 8; } }"
            + " macro j() i { try { try { return 4; } always { print 1; } } always { print 2; } }"
            + " macro p() i { let n = 1; try { return n; } always { n = 5; } }"
            + " macro q() i { try { try { fail 1; } always { return 6; } } always { print 3; } }";
        text = "macro k1() i { try { return 5; } always { print 9; } } " + text;
        LaneSheet sheet = Sheet.of(text);
        int[] want = {5, 1, 2, 3, 1, 5, 4, 1, 6};
        String[] printed = {"9", "7", "", "", "", "9 8", "1 2", "", "3"};
        for (int m = 0; m < want.length; m++) {
            Sheet.due("macro " + m, sheet.run(m, 500, 0, 0, 0), 0);
            Sheet.due("result of macro " + m, sheet.result(), want[m]);
            Sheet.duePrinted("macro " + m, sheet, printed[m]);
        }
        LaneSheet pending = Sheet.of("macro m() { try { fail 1; } always { try { print 1 / 0; } on zero { } } }");
        Sheet.due("the first goes on", pending.run(0, 50, 0, 0, 0), 1);
        Sheet.due("the first goes on", pending.about(1), OWN);
        Sheet.due("the first goes on", pending.about(2), 18);
        Sheet.due("the first goes on", pending.about(3), 1);
        Sheet.due("FAULTS in all", pending.about(10), 2);
        LaneSheet instead = Sheet.faulted(ZERO, "try { fail 1; } always { print 1 ^/ 0; }");
        Sheet.due("no number of it", instead.about(3), 0);
    }

    private static void undo() {
        Sheet.ran("A0 = new A 3; A0[0] = 1; K0 = box 5; try { undo { A0[0] = 2; A1 = A0; A0 = none; K0 = none; fail 1; } }"
            + " on own { } print A0[0]; print same(A1, none); print worth(K0 as box);", "1 1 5");
        Sheet.ran("A0 = new A 3; undo { A0[0] = 2; A1 = A0; } print A1[0];", "2");
        Sheet.ran("A0 = new A 3; try { undo { A0[0] = 2; undo { A0[0] = 3; A0[1] = 3; } A0[2] = 4; fail 1; } } on own { }"
            + " print A0[0]; print A0[1]; print A0[2];", "0 0 0");
        Sheet.ran("A0 = new A 3; undo { A0[0] = 2; try { undo { A0[0] = 3; A0[1] = 3; fail 1; } } on own { } A0[2] = 4; }"
            + " print A0[0]; print A0[1]; print A0[2];", "2 0 4");
        Sheet.ran("A0 = new A 3; undo { try { A0[0] = 3; fail 1; } on own { } } print A0[0];", "3");
        Sheet.ran("I0 = new I 2, 2; J0 = new J 2; J0[0] = note 1, 2; K0 = J0; K1 = I0; let n = 1; try { undo { I0[0][1] = 5;"
            + " I0[1] = none; J0[0].num = 7; J0[0].mark = 8; J0[1] = J0[0]; J0[0] = none; J0 = none; K0 = none; I0 = none;"
            + " n = 2; print 3; copy K1, 0, K1, 1, 1; fail 1; } } on any { } print I0[0][1]; print size I0[1];"
            + " print J0[0].num; print J0[0].mark; print J0[1] is box; print same(K0, J0); print same(I0[0], I0[1]); print n;",
            "3 0 2 1 2 0 1 0 2");
        LaneSheet sheet = Sheet.of("macro w(n i) i { D0 = new D 2; D0[0] = n; undo { D0[0] = n + 1; return D0[0]; } }"
            + " macro x() { D0[0] = 70; } macro y() { D0 = new D 2; try { undo { x(); D0[1] = 3; print 1 / 0; } } on zero"
            + " { print D0[0]; print D0[1]; } } macro z() i { D0 = new D 1; undo { try { D0[0] = 4; fail 1; } always"
            + " { return 9; } } } macro left() { D0 = new D 1; undo { D0[0] = 4; fail 1; } }"
            + " macro inner() { D0 = new D 1; undo { try { D0[0] = 4; fail 1; } always { print D0[0]; D0[0] = 5; } } }");
        sheet.run(0, 50, 8, 0, 0);
        Sheet.due("a return is no FAULT", sheet.element(24, 0), 9);
        sheet.run(2, 50, 0, 0, 0);
        Sheet.duePrinted("of calls, too", sheet, "0 0");
        sheet.run(3, 50, 0, 0, 0);
        Sheet.due("a FAULT that does not leave it", sheet.element(24, 0), 4);
        Sheet.due("a FAULT that leaves the run", sheet.run(4, 50, 0, 0, 0), 1);
        Sheet.due("put back", sheet.element(24, 0), 0);
        sheet.run(5, 50, 0, 0, 0);
        Sheet.duePrinted("always comes first", sheet, "4");
        Sheet.due("put back behind always", sheet.element(24, 0), 0);
        LaneSheet copied = Sheet.of("macro m() { J0 = new J 3; J0[0] = note 1, 1; J0[1] = box 1; J1 = new N 3; J1[0] = seal 2, 2;"
            + " try { undo { copy J0, 0, J1, 0, 3; } } on element { } }");
        copied.run(0, 50, 0, 0, 0);
        Sheet.due("what a copy did is put back", copied.element(73, 0), 3);
    }

    private static void traces() {
        LaneSheet sheet = Sheet.of("macro a() { fail 1; } macro c() { a(); } macro e() { c(); }"
            + " macro g() { try { e(); } on any { } } macro h() { try { e(); } always { try { a(); } on any { } } }"
            + " macro j() { g(); print 1; } macro k1() { g(); fail 2; } macro n() { }");
        Sheet.due("run", sheet.run(2, 50, 0, 0, 0), 1);
        Sheet.due("about(6)", sheet.about(6), 3);
        Sheet.due("trace(0)", Sheet.trace(sheet, 0), 0);
        Sheet.due("trace(1)", Sheet.trace(sheet, 1), 1);
        Sheet.due("trace(2)", Sheet.trace(sheet, 2), 2);
        Sheet.due("trace(3)", Sheet.trace(sheet, 3), Sheet.THROWN);
        Sheet.due("trace(-1)", Sheet.trace(sheet, -1), Sheet.THROWN);
        Sheet.due("run", sheet.run(5, 50, 0, 0, 0), 0);
        Sheet.due("of one that was taken", sheet.about(6), 3);
        Sheet.due("trace(2)", Sheet.trace(sheet, 2), 2);
        Sheet.due("run", sheet.run(6, 50, 0, 0, 0), 1);
        Sheet.due("a FAULT that begins empties it", sheet.about(6), 1);
        Sheet.due("trace(0)", Sheet.trace(sheet, 0), 6);
        Sheet.due("run", sheet.run(4, 50, 0, 0, 0), 1);
        Sheet.due("emptied on the way", sheet.about(6), 2);
        Sheet.due("trace(0)", Sheet.trace(sheet, 0), 0);
        Sheet.due("trace(1)", Sheet.trace(sheet, 1), 4);
        Sheet.due("run", sheet.run(7, 50, 0, 0, 0), 0);
        Sheet.due("none in this run", sheet.about(6), 0);
        Sheet.due("trace(0)", Sheet.trace(sheet, 0), Sheet.THROWN);
        LaneSheet deep = Sheet.of("macro q() { q(); }");
        deep.run(0, 50, 0, 0, 0);
        Sheet.due("twelve", deep.about(6), 12);
        Sheet.due("trace(11)", Sheet.trace(deep, 11), 0);
        Sheet.due("trace(12)", Sheet.trace(deep, 12), Sheet.THROWN);
    }

    private static void printing() {
        LaneSheet sheet = Sheet.of("macro m(n i) { let k = 0; while k < n { print k; k = k + 1; } } macro q() { }");
        sheet.run(0, 1000, 250, 0, 0);
        Sheet.due("about(7)", sheet.about(7), 250);
        Sheet.due("out(199, 1)", Sheet.out(sheet, 199, 1), 199);
        Sheet.due("out(199, 0)", Sheet.out(sheet, 199, 0), 1);
        Sheet.due("out(200, 1)", Sheet.out(sheet, 200, 1), Sheet.THROWN);
        Sheet.due("out(0, 2)", Sheet.out(sheet, 0, 2), Sheet.THROWN);
        Sheet.due("out(0, -1)", Sheet.out(sheet, 0, -1), Sheet.THROWN);
        Sheet.due("out(-1, 0)", Sheet.out(sheet, -1, 0), Sheet.THROWN);
        sheet.run(0, 1000, 2, 0, 0);
        Sheet.due("of the latest run", sheet.about(7), 2);
        Sheet.due("out(2, 1)", Sheet.out(sheet, 2, 1), Sheet.THROWN);
        sheet.run(1, 1000, 2, 0, 0);
        Sheet.due("out(0, 1)", Sheet.out(sheet, 0, 1), Sheet.THROWN);
    }
}
