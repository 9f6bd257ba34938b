/** Promises 2 to 4: feeding, and texts with the FAULT that each must have, at its place. */
public final class TextTest {
    private static final int TOKEN = 1;
    private static final int SYNTAX = 2;
    private static final int NAME = 3;
    private static final int TWICE = 4;
    private static final int TYPE = 5;
    private static final int MANY = 6;

    public static void main(String[] args) {
        feeding();
        compiling();
        tokens();
        syntaxOfMacros();
        syntaxOfStatements();
        mixedUp();
        syntaxOfExpressions();
        syntaxOfThings();
        names();
        twice();
        typesOfExpressions();
        typesOfWhatGoesSomewhere();
        typesOfFunctions();
        typesOfThings();
        ends();
        many();
        firstMet();
        Sheet.end();
    }

    private static String in(String statements) {
        return "macro m(n i, k l, x f, y d, b t) { " + statements + " }";
    }

    private static void fault(int kind, String statements) {
        Sheet.fault(kind, in(statements));
    }

    private static void fine(String statements) {
        Sheet.fine(in(statements));
    }

    private static void feeding() {
        LaneSheet sheet = new LaneSheet();
        for (int i = 1; i <= 200; i++) {
            Sheet.due("feed " + i, sheet.feed(0x20202020, 0x20202020, 0x20202020, 0x20202020, 0x20202020), 20 * i);
        }
        Sheet.due("feed beyond 4000", sheet.feed(0, 0, 0, 0, 0), -1);
        Sheet.due("compile beyond the tape", sheet.compile(4001), -2);
        Sheet.due("compile below 0", sheet.compile(-1), -2);
        Sheet.due("compile of blanks", sheet.compile(4000), -1);
        Sheet.due("fault(0)", sheet.fault(0), SYNTAX);
        Sheet.due("fault(1) is the size", sheet.fault(1), 4000);
        Sheet.due("the tape is empty", sheet.compile(1), -2);
        Sheet.due("fault(0) stays", sheet.fault(0), SYNTAX);
        Sheet.due("feed again", sheet.feed(0, 0, 0, 0, 0), 20);
        Sheet.due("compile of 0", sheet.compile(0), -1);
        Sheet.due("fault(1) of nothing", sheet.fault(1), 0);
        Sheet.due("tape empty behind compile(0)", sheet.compile(1), -2);
        // The highest byte of each number is first.
        Sheet.due("feed", sheet.feed(0x6d616372, 0x6f206d28, 0x29207b7d, 0x20202020, 0x20202020), 20);
        Sheet.due("compile of a prefix", sheet.compile(12), 1);
        Sheet.due("run", sheet.run(0, 1, 0, 0, 0), 0);
    }

    private static void compiling() {
        LaneSheet sheet = new LaneSheet();
        Sheet.due("fault(0) before all", sheet.fault(0), 0);
        Sheet.due("fault(1) before all", sheet.fault(1), 0);
        Sheet.due("fault(2)", sheet.fault(2), -1);
        Sheet.due("fault(-1)", sheet.fault(-1), -1);
        Sheet.due("two macros", Sheet.compile(sheet, "macro a() {} macro b() i { return 7; }"), 2);
        Sheet.due("the first", sheet.run(0, 1, 0, 0, 0), 0);
        Sheet.due("the second", sheet.run(1, 1, 0, 0, 0), 0);
        Sheet.due("its result", sheet.result(), 7);
        Sheet.due("no third", sheet.run(2, 1, 0, 0, 0), -1);
        Sheet.due("its result still", sheet.result(), 7);
        Sheet.due("-2", sheet.compile(1), -2);
        Sheet.due("program stays behind -2", sheet.run(1, 1, 0, 0, 0), 0);
        Sheet.due("a fault", Sheet.compile(sheet, "macro a( {}"), -1);
        Sheet.due("fault(0)", sheet.fault(0), SYNTAX);
        Sheet.due("fault(1)", sheet.fault(1), 9);
        Sheet.due("no program", sheet.run(0, 1, 0, 0, 0), -1);
        Sheet.due("fine again", Sheet.compile(sheet, "macro a() {}"), 1);
        Sheet.due("fault(0) gone", sheet.fault(0), 0);
        Sheet.due("fault(1) gone", sheet.fault(1), 0);
        LaneSheet cells = Sheet.of("macro a() { A0 = new A 3; }");
        cells.run(0, 5, 0, 0, 0);
        Sheet.compile(cells, "macro");
        Sheet.due("cells stay", cells.cell(0, 1), 3);
        Sheet.due("about stays", cells.about(0), 0);
        Sheet.due("about(5) stays", cells.about(5), 1);
    }

    private static void tokens() {
        Sheet.fault(TOKEN, "^#");
        Sheet.fault(TOKEN, "macro m() { ^! }");
        Sheet.fault(TOKEN, "macro m() { ^$ ");
        Sheet.fault(TOKEN, "macro m() { ^\u0000 }");
        Sheet.fault(TOKEN, "macro m() { ^\u00e4 }");
        Sheet.fault(TOKEN, "macro m() { ^\u000b }");
        Sheet.fault(TOKEN, "macro m() { ^K }");
        Sheet.fault(TOKEN, "macro m() { ^K8 }");
        Sheet.fault(TOKEN, "macro m() { ^L0 }");
        Sheet.fault(TOKEN, "macro m() { ^N0 }");
        Sheet.fault(TOKEN, "macro m() { ^S7 }");
        Sheet.fault(TOKEN, "macro m() { ^Z }");
        Sheet.fault(TOKEN, "macro ^abcdefghijklm() { }");
        Sheet.fine("macro abcdefghijkl() { }");
        Sheet.fine("macro a12345678901() { }");
        Sheet.fault(TOKEN, "macro ^a123456789012() { }");
        fault(TOKEN, "print ^2147483648;");
        fault(TOKEN, "print ^2147483648.;");
        fine("print 2147483648.0;");
        fine("print 00000000000000002147483647;");
        fault(TOKEN, "print ^9223372036854775808l;");
        fault(TOKEN, "print ^99999999999999999999999999l;");
        fine("print 0009223372036854775807l;");
        fine("print 12345678901234.5;");
        fault(TOKEN, "print ^123456789012345.5;");
        fault(TOKEN, "print ^0.0000000000000001;");
        fine("print 0.00000000000001;");
        fault(TOKEN, "print ^0000000000000000.5f;");
        fault(TOKEN, "print ^'a;");
        fault(TOKEN, "print ^'ab';");
        fault(TOKEN, "print ^'';");
        fault(TOKEN, "print ^'\u0009';");
        fault(TOKEN, "print ^'\u007f';");
        Sheet.fault(TOKEN, "macro m() { print ^'a");
        Sheet.fault(TOKEN, "macro m() { print ^'");
        fine("print '''; print ' '; print '~';");
        // A TOKEN counts ahead of all that is read.
        Sheet.fault(TOKEN, "} let let 5 ^#");
        // As long as can be: 1. is 1 and a sign, 5f is 5 and a word, 12let is 12l and et.
        fault(SYNTAX, "print 1^.;");
        fault(SYNTAX, "print 1^.f;");
        fault(SYNTAX, "print 5^f;");
        fault(SYNTAX, "print 12l^et;");
        fault(SYNTAX, "print 1.5^l;");
        fault(SYNTAX, "print 1.5f^oo;");
        fault(SYNTAX, "print 1.5^.5;");
        fault(SYNTAX, "A0^1 = none;");
        fault(SYNTAX, "^A8 = none;");
        fault(SYNTAX, "print n < ^= 1;");
        fault(SYNTAX, "print n ^= = 1;");
        fine("\tlet\nq\r=\t1\r\n;print(q)<=(2);print q>=1;print q==1;print q!=1;");
        fine("print(1)-(-(1));print-1;print(n)*n/n%n;");
    }

    private static void syntaxOfMacros() {
        Sheet.fault(SYNTAX, "^");
        Sheet.fault(SYNTAX, "   ^");
        Sheet.fault(SYNTAX, "^m() {}");
        Sheet.fault(SYNTAX, "macro^");
        Sheet.fault(SYNTAX, "macro ^macro() {}");
        Sheet.fault(SYNTAX, "macro ^abs() {}");
        Sheet.fault(SYNTAX, "macro ^i() {}");
        Sheet.fault(SYNTAX, "macro ^5() {}");
        Sheet.fault(SYNTAX, "macro ^A0() {}");
        Sheet.fault(SYNTAX, "macro m ^{}");
        Sheet.fault(SYNTAX, "macro m(^i n) {}");
        Sheet.fault(SYNTAX, "macro m(n ^) {}");
        Sheet.fault(SYNTAX, "macro m(n ^int) {}");
        Sheet.fault(SYNTAX, "macro m(n i,^) {}");
        Sheet.fault(SYNTAX, "macro m(n i ^q i) {}");
        Sheet.fault(SYNTAX, "macro m() ^q {}");
        Sheet.fault(SYNTAX, "macro m() i ^i {}");
        Sheet.fault(SYNTAX, "macro m() {^");
        Sheet.fault(SYNTAX, "macro m() {} ^}");
        Sheet.fault(SYNTAX, "macro m() {} ^q");
        Sheet.fault(SYNTAX, "macro m() {} macro ^");
        Sheet.fine("macro m(a i, c l, e f, g d, h t, j i) {} macro q() {}");
    }

    private static void syntaxOfStatements() {
        fault(SYNTAX, "^;");
        fault(SYNTAX, "^5;");
        fault(SYNTAX, "^{ }");
        fault(SYNTAX, "^else { }");
        fault(SYNTAX, "^on any { }");
        fault(SYNTAX, "^always { }");
        fault(SYNTAX, "^size A0;");
        fault(SYNTAX, "^none;");
        fault(SYNTAX, "^D;");
        fault(SYNTAX, "let ^5 = 1;");
        fault(SYNTAX, "let ^is = 1;");
        fault(SYNTAX, "let q ^1;");
        fault(SYNTAX, "let q ^== 1;");
        fault(SYNTAX, "let q = ^;");
        fault(SYNTAX, "let q = 1 ^}");
        fault(SYNTAX, "n ^;");
        fault(SYNTAX, "n = 1 ^2;");
        fault(SYNTAX, "n ^+ 1;");
        fault(SYNTAX, "A0 ^;");
        fault(SYNTAX, "A0 ^. num = 1;");
        fault(SYNTAX, "A0[0] ^;");
        fault(SYNTAX, "A0[0] ^[0] = 1;");
        fault(SYNTAX, "A0[^] = 1;");
        fault(SYNTAX, "A0[0 ^= 1;");
        fault(SYNTAX, "K0 ^[0] = 1;");
        fault(SYNTAX, "I0[0][0] ^[0] = 1;");
        fault(SYNTAX, "I0[0] ^. num = 1;");
        fault(SYNTAX, "J0[0] ^[0] = 1;");
        fault(SYNTAX, "J0[0]. ^q = 5;");
        fault(SYNTAX, "J0[0].num ^. num = 5;");
        fault(SYNTAX, "J0[0].num ^;");
        fault(SYNTAX, "copy ^n, 1, A0, 1, 1;");
        fault(SYNTAX, "copy A0 ^1;");
        fault(SYNTAX, "copy A0 ^[1], 1, A0, 1, 1;");
        fault(SYNTAX, "copy A0, 1, ^1, A0, 1;");
        fault(SYNTAX, "copy A0, 1, A1, 1 ^;");
        fault(SYNTAX, "copy A0, 1, A1, 1, 1 ^, 1;");
        fault(SYNTAX, "if ^{ }");
        fault(SYNTAX, "if b ^;");
        fault(SYNTAX, "if b { } else ^;");
        fault(SYNTAX, "if b { } else { } ^else { }");
        fault(SYNTAX, "while b ^print 1;");
        fault(SYNTAX, "try ^print 1;");
        fault(SYNTAX, "try { } ^print 1;");
        fault(SYNTAX, "try { } ^}");
        fault(SYNTAX, "try { } on ^{ }");
        fault(SYNTAX, "try { } on ^q { }");
        fault(SYNTAX, "try { } on any ^5 { }");
        fault(SYNTAX, "try { } on any ^any { }");
        fault(SYNTAX, "try { } on any q ^r { }");
        fault(SYNTAX, "try { } always ^q { }");
        fault(SYNTAX, "try { } always { } ^on any { }");
        fault(SYNTAX, "try { } always { } ^always { }");
        fault(SYNTAX, "undo ^;");
        fault(SYNTAX, "fail ^;");
        fault(SYNTAX, "print ^;");
        fault(SYNTAX, "return; ^;");
        Sheet.fault(SYNTAX, "macro m() i { return ^}");
        Sheet.fault(SYNTAX, "macro m() i { return 1 ^}");
        fine("try { } on missing { } on place { } on count { } on kind { } on element { } on zero { } on own { }"
            + " on deep { } on any { } always { }");
        fine("try { } always { } try { } on any q { n = q; } let q = 1;");
        fine("if b { } else if b { } else if b { } else { } if b { } if b { } else if b { }");
        fine("m(n, k, x, y, b); return; print 1;");
        fine("copy K0, 1, J0, n, size I0[1];");
    }

    /** An E where a THING must go, or the other way round: a FAULT there, SYNTAX or TYPE, as the document leaves that open. */
    private static void mixedUp() {
        for (String statement : new String[] {"A0[0] = ^none;", "H0[0] = ^box 1;", "I0[0][0] = ^none;", "J0[0].num = ^new A 1;", "I0[0] = ^5;",
            "I0[0] = ^true;", "J0[0] = ^5;", "J0[0] = ^n;"}) {
            String marked = in(statement);
            int place = marked.indexOf('^');
            LaneSheet sheet = new LaneSheet();
            Sheet.due(marked, Sheet.compile(sheet, marked.replace("^", "")), -1);
            Sheet.due("kind: " + marked, sheet.fault(0) == SYNTAX || sheet.fault(0) == TYPE ? 1 : 0, 1);
            Sheet.due("place: " + marked, sheet.fault(1), place);
        }
    }

    private static void syntaxOfExpressions() {
        fault(SYNTAX, "print 1 + ^;");
        fault(SYNTAX, "print 1 < 2 ^< 3;");
        fault(SYNTAX, "print 1 == 2 ^!= 3;");
        fault(SYNTAX, "print 1 + ^not b;");
        fault(SYNTAX, "print - ^not b;");
        fault(SYNTAX, "print b == ^not b;");
        fine("print not not b and not b or b == (not b);");
        fine("print - - n + - n * - - - n;");
        fault(SYNTAX, "print ^+ n;");
        fault(SYNTAX, "print (1 ^;");
        fault(SYNTAX, "print (^);");
        fault(SYNTAX, "print 1 ^);");
        fault(SYNTAX, "print A0 ^;");
        fault(SYNTAX, "print A0 ^is A;");
        fault(SYNTAX, "print A0[1] ^is box;");
        fault(SYNTAX, "print I0[1] ^;");
        fault(SYNTAX, "print I0[1] ^is box;");
        fault(SYNTAX, "print I0[1][2] ^is box;");
        fault(SYNTAX, "print J0[1] ^;");
        fault(SYNTAX, "print J0[1] ^+ 1;");
        fault(SYNTAX, "print J0 ^is J;");
        fault(SYNTAX, "print J0[1] is ^J;");
        fault(SYNTAX, "print J0[1] is box ^+ 1;");
        fault(SYNTAX, "print J0[1] is box ^* 1;");
        fault(SYNTAX, "print J0[1] is box ^== b;");
        fault(SYNTAX, "print 1 + J0[1] ^is box;");
        fault(SYNTAX, "print - J0[1] ^is box;");
        fault(SYNTAX, "print b == J0[1] ^is box;");
        fault(SYNTAX, "print 2 * J0[1] ^is box;");
        fault(SYNTAX, "print J0[1].num ^is box;");
        fault(SYNTAX, "print J0[J0[1] ^].num;");
        fine("print J0[J0[1].mark].num + J0[2].num; print J0[1] is box and J0[1] is note or not J0[1] is seal;");
        fine("print (J0[1] is box) == b; print J0[int(J0[0].num)] is box;");
        fault(SYNTAX, "print K0 ^;");
        fault(SYNTAX, "print K0 ^[1];");
        fault(SYNTAX, "print K0 ^+ 1;");
        fault(SYNTAX, "print K0 ^as A;");
        fault(SYNTAX, "print 1 + K0 ^[1];");
        fault(SYNTAX, "print K0 is ^K0;");
        fault(SYNTAX, "print K0 is ^none;");
        fault(SYNTAX, "print K0 is A ^== b;");
        fault(SYNTAX, "print K0 is A ^+ 1;");
        fine("print K0 is A and not K0 is N or (K0 is box) == (K1 is seal); print K0 is note; print K0 is I;");
        fault(SYNTAX, "print size ^n;");
        fault(SYNTAX, "print size ^none;");
        fault(SYNTAX, "print size A0 ^[1];");
        fault(SYNTAX, "print size J0 ^[1];");
        fault(SYNTAX, "print size K0 ^[1];");
        fault(SYNTAX, "print size I0[1] ^[2];");
        fault(SYNTAX, "print size K0 ^is A;");
        fine("print size A0 + size K0 * size J0 - size I0 % size I0[n];");
        fault(SYNTAX, "print same ^A0;");
        fault(SYNTAX, "print same(A0 ^);");
        fault(SYNTAX, "print same(^1, A0);");
        fault(SYNTAX, "print same(new I 1, ^none);");
        fault(SYNTAX, "print same(A0 ^[1], A0);");
        fine("print same(new I 1, 2, none); print same(none, new I 1); print same(note 1, 2, seal 1, 2);");
        fault(SYNTAX, "print worth(^);");
        fault(SYNTAX, "print worth(none ^, none);");
        fault(SYNTAX, "print abs ^1;");
        fault(SYNTAX, "print abs(^);");
        fault(SYNTAX, "print min(1,^);");
        fault(SYNTAX, "print ^let;");
        fault(SYNTAX, "print ^num;");
        fault(SYNTAX, "print ^D;");
        fault(SYNTAX, "m(n, k, x, y, b ^;");
        fault(SYNTAX, "m(^, k);");
        fault(SYNTAX, "m(n, k, x, y, b)^+ 1;");
    }

    private static void syntaxOfThings() {
        fault(SYNTAX, "A0 = ^5;");
        fault(SYNTAX, "A0 = ^n;");
        fault(SYNTAX, "A0 = ^(A1);");
        fault(SYNTAX, "K0 = A0 ^[1];");
        fault(SYNTAX, "K0 = K1 ^[1];");
        fault(SYNTAX, "K0 = A0 ^as A;");
        fault(SYNTAX, "K0 = J0 ^as N;");
        fault(SYNTAX, "K0 = J0[1] ^as note;");
        fault(SYNTAX, "K0 = J0[1] ^. num;");
        fault(SYNTAX, "K0 = I0[1] ^[1];");
        fault(SYNTAX, "K0 = K1 ^is A;");
        fault(SYNTAX, "K0 = K1 as ^none;");
        fault(SYNTAX, "K0 = clone ^none;");
        fault(SYNTAX, "K0 = clone I0 ^[1];");
        fault(SYNTAX, "K0 = clone K1 ^as A;");
        fault(SYNTAX, "K0 = new ^5;");
        fault(SYNTAX, "K0 = new ^A0 5;");
        fault(SYNTAX, "K0 = new A ^;");
        fault(SYNTAX, "K0 = new A 1 ^, 2;");
        fault(SYNTAX, "K0 = new I 1, 2 ^, 3;");
        fault(SYNTAX, "K0 = box ^;");
        fault(SYNTAX, "K0 = box 1 ^, 2;");
        fault(SYNTAX, "K0 = note 1 ^;");
        fault(SYNTAX, "K0 = seal 1, ^;");
        fine("K0 = none; K0 = K1; K0 = A0; K0 = K1 as A; K0 = K1 as box; K0 = K1 as note; K0 = K1 as seal; K0 = K1 as S;"
            + " K0 = clone K1; K0 = clone J0; K0 = new N 3; K0 = new I 3; K0 = new I 3, 4; K0 = I0[1]; K0 = J0[1];"
            + " K0 = box 1; K0 = note 1, 2; K0 = seal n + 1, n * 2;");
        fine("A0 = new A 8; B0 = new B8; C0 = new C 8; D0 = new D 8; E0 = new E 8; F0 = new F 8; G0 = new G 8;"
            + " H0 = new H 8; I0 = new I 8; J0 = new J 8; J0 = new N 8; J0 = new S 8; J0 = J1; J0 = clone J1;");
    }

    private static void names() {
        fault(NAME, "^q = 1;");
        fault(NAME, "^q;");
        fault(NAME, "print ^q;");
        fault(NAME, "print ^m;");
        fault(NAME, "^m = 1;");
        fault(NAME, "^n(1);");
        fault(NAME, "print ^n(1);");
        fault(NAME, "print n + ^q(;");
        fault(NAME, "let q = ^q;");
        fault(NAME, "if b { let q = 1; } print ^q;");
        fault(NAME, "while b { let q = 1; } print ^q;");
        fault(NAME, "try { let q = 1; } on any { print ^q; }");
        fault(NAME, "try { } on any q { } on any { print ^q; }");
        fault(NAME, "try { } on any q { } always { print ^q; }");
        fault(NAME, "try { } on any q { } print ^q;");
        fault(NAME, "undo { let q = 1; } print ^q;");
        fault(NAME, "A0[^q] = 1;");
        Sheet.fault(NAME, "macro a() { ^c(); } macro c() { }");
        Sheet.fault(NAME, "macro a(n i) { } macro c() { print ^n; }");
        Sheet.fine("macro a(a i) i { return a(a); } macro c() i { let a = 5; return a(a); }");
        Sheet.fine("macro a() i { let a = 5; return a; } macro c(c i) { c(c); }");
        fine("let q = 1; if b { print q; let r = q; while b { print r; } } let r = 1;");
        fine("if b { let q = 1; } else { let q = 1.5; } let q = true;");
    }

    private static void twice() {
        fault(TWICE, "let ^n = 1;");
        fault(TWICE, "let q = 1; let ^q = 1;");
        fault(TWICE, "let q = 1; if b { let ^q = 1; }");
        fault(TWICE, "try { } on any ^n { }");
        fault(TWICE, "try { } on any q { let ^q = 1; }");
        fault(TWICE, "let q = 1; try { } on any ^q { }");
        Sheet.fault(TWICE, "macro m(n i, ^n l) { }");
        Sheet.fault(TWICE, "macro m() { } macro ^m() { }");
        fine("let m = 1; try { } on any q { } try { } on any q { } let q = 1;");
    }

    private static void typesOfExpressions() {
        for (String sign : "+ - * / %".split(" ")) {
            fault(TYPE, "print b ^" + sign + " 1;");
            fault(TYPE, "print 1 ^" + sign + " b;");
            fault(TYPE, "print b ^" + sign + " b;");
        }
        for (String sign : "< <= > >=".split(" ")) {
            fault(TYPE, "print b ^" + sign + " b;");
            fault(TYPE, "print 1 ^" + sign + " b;");
            fault(TYPE, "print b ^" + sign + " 1;");
            fine("print n " + sign + " y;");
        }
        for (String sign : "== !=".split(" ")) {
            fault(TYPE, "print 1 ^" + sign + " b;");
            fault(TYPE, "print b ^" + sign + " 1.0;");
            fine("print b " + sign + " b; print n " + sign + " y;");
        }
        for (String word : "and or".split(" ")) {
            fault(TYPE, "print 1 ^" + word + " b;");
            fault(TYPE, "print b ^" + word + " 1;");
        }
        fault(TYPE, "print ^not 1;");
        fault(TYPE, "print not ^not 1;");
        fault(TYPE, "print ^- b;");
        fault(TYPE, "print - ^- b;");
        fault(TYPE, "print ^not n + 1;");
        fault(TYPE, "print (b ^+ 1) ;");
        fault(TYPE, "print b + (1 ^+ b);");
        fault(TYPE, "print 1 ^+ b + q;");
        fault(NAME, "print b + ^q;");
        fault(SYNTAX, "print b + ^;");
        fault(TYPE, "print H0[1] ^+ 1;");
        fault(TYPE, "print G0[1] ^and b;");
        fault(TYPE, "print (K0 is A) ^+ 1;");
        fine("print A0[1] + B0[1] + C0[1] + D0[1] + E0[1] + F0[1] + G0[1] + I0[1][1] + J0[1].num + J0[1].mark + size A0"
            + " + worth(box 1); print H0[1] and same(A0, A0) and K0 is A and J0[1] is box;");
    }

    private static void typesOfWhatGoesSomewhere() {
        fault(TYPE, "n = ^k;");
        fault(TYPE, "n = ^x;");
        fault(TYPE, "n = ^b;");
        fault(TYPE, "n = ^(k) ]");
        fault(TYPE, "k = ^x;");
        fault(TYPE, "x = ^1.0;");
        fault(TYPE, "x = ^nan;");
        fault(TYPE, "x = ^- inf;");
        fault(TYPE, "y = ^b;");
        fault(TYPE, "b = ^1;");
        fault(TYPE, "let q = 1; q = ^1l;");
        fine("k = n; x = n; x = k; y = n; y = k; y = x; y = nan; b = b; let q = 1.5f; q = 1l;");
        fault(TYPE, "if ^1 { }");
        fault(TYPE, "if ^1 ;");
        fault(TYPE, "if b { } else if ^n + 1 { }");
        fault(TYPE, "while ^1.0 { }");
        fault(TYPE, "fail ^1l;");
        fault(TYPE, "fail ^b;");
        fault(TYPE, "A0[^1l] = 1;");
        fault(TYPE, "A0[^b ; ");
        fault(TYPE, "print A0[^1.0];");
        fault(TYPE, "print I0[^k][1];");
        fault(TYPE, "print I0[1][^k];");
        fault(TYPE, "print J0[^b] is box;");
        fault(TYPE, "print size I0[^k];");
        fault(TYPE, "K0 = I0[^k];");
        fault(TYPE, "K0 = new A ^1l;");
        fault(TYPE, "K0 = new I ^1l, 1;");
        fault(TYPE, "K0 = new I 1, ^b;");
        fault(TYPE, "copy A0, ^k, A1, 1, 1;");
        fault(TYPE, "copy A0, 1, A1, ^k, 1;");
        fault(TYPE, "copy A0, 1, A1, 1, ^b;");
        for (char column = 'A'; column <= 'D'; column++) {
            fault(TYPE, column + "0[0] = ^1l;");
            fault(TYPE, column + "0[0] = ^b;");
        }
        fault(TYPE, "E0[0] = ^1.0f;");
        fault(TYPE, "F0[0] = ^1.0;");
        fault(TYPE, "G0[0] = ^b;");
        fault(TYPE, "H0[0] = ^1;");
        fault(TYPE, "I0[0][0] = ^1l;");
        fault(TYPE, "J0[0].num = ^1.0;");
        fault(TYPE, "J0[0].mark = ^1l;");
        fine("E0[0] = n; E0[0] = k; F0[0] = n; F0[0] = k; F0[0] = x; G0[0] = n; G0[0] = k; G0[0] = x; G0[0] = y;"
            + " H0[0] = b; I0[0][0] = n; J0[0].num = n; J0[0].num = k; J0[0].mark = n;");
        fault(TYPE, "K0 = box ^1.0;");
        fault(TYPE, "K0 = note ^b, 1;");
        fault(TYPE, "K0 = note 1, ^1l;");
        fault(TYPE, "K0 = seal 1l, ^b;");
        fault(TYPE, "m(^k, k, x, y, b);");
        fault(TYPE, "m(n, k, x, y, ^n);");
        fault(TYPE, "m(n, k, x, y, b, n, 5^);");
        fault(TYPE, "m(^);");
        fault(TYPE, "m(n^);");
        fault(TYPE, "print ^m(;");
        fault(TYPE, "print 1 + ^m(q);");
        fault(TYPE, "^return 1;");
        fault(TYPE, "^return q;");
        Sheet.fault(TYPE, "macro a() i { ^return; }");
        Sheet.fault(TYPE, "macro a() i { return ^1l; }");
        Sheet.fault(TYPE, "macro a() t { return ^1; }");
        Sheet.fault(TYPE, "macro a() d { return ^true; }");
        Sheet.fine("macro a() d { return 1; } macro c() { a(); } macro e() l { return 1; } macro g() f { return e(); }");
    }

    private static void typesOfFunctions() {
        for (String word : ("int long float double byte short sign abs floor ceil rint sqrt signum ulp up down exponent"
            + " bits real round nans").split(" ")) {
            fault(TYPE, "print ^" + word + "(b);");
            fault(TYPE, "print " + word + "(1, 1^);");
            fault(TYPE, "print " + word + "(b, b, b, b, b^);");
        }
        for (String word : "bits round nans".split(" ")) {
            fault(TYPE, "print ^" + word + "(n);");
            fault(TYPE, "print ^" + word + "(k);");
            fine("print " + word + "(x); print " + word + "(y);");
        }
        fault(TYPE, "print ^real(x);");
        fault(TYPE, "print ^real(y);");
        fine("print real(n); print real(k);");
        for (String word : "min max copysign".split(" ")) {
            fault(TYPE, "print ^" + word + "(b, 1);");
            fault(TYPE, "print ^" + word + "(1, b);");
            fault(TYPE, "print " + word + "(1^);");
            fault(TYPE, "print " + word + "(b, 1, 1^);");
            fine("print " + word + "(n, y); print " + word + "(x, k);");
        }
        fault(TYPE, "print ^fma(1, 1, b);");
        fault(TYPE, "print fma(1, b^);");
        fault(TYPE, "print ^scalb(1, 1l);");
        fault(TYPE, "print ^scalb(b, 1);");
        fault(TYPE, "print ^scalb(1.0, 1.0);");
        fault(SYNTAX, "print abs(b ^;");
        fine("print fma(n, k, y); print scalb(k, n); print exponent(n) + exponent(k) + exponent(x) + exponent(y);");
        // What they answer.
        fine("n = int(y); n = byte(y); n = short(y); n = sign(y); n = bits(x); k = bits(y); x = real(n); y = real(k);"
            + " n = abs(n); k = min(n, k); x = max(k, x); n = round(x); k = round(y); x = ulp(x); x = up(x); x = down(x);"
            + " x = copysign(x, x); n = exponent(y); b = nans(x); k = long(y); x = float(y);");
        for (String call : ("double(1) floor(1) ceil(1.0f) rint(1) sqrt(1) signum(1.0f) ulp(1) up(1l) down(1) copysign(x,1)"
            + " fma(1,1,1) scalb(1.0f,1) min(x,y)").split(" ")) {
            fault(TYPE, "x = ^" + call + ";");
        }
        fault(TYPE, "n = ^bits(y);");
        fault(TYPE, "n = ^round(y);");
        fault(TYPE, "n = ^max(n, k);");
        fault(TYPE, "k = ^real(k);");
    }

    private static void typesOfThings() {
        fault(TYPE, "A0 = ^B0;");
        fault(TYPE, "A0 = ^B0 5;");
        fault(SYNTAX, "A0 = B0 ^as A;");
        fault(SYNTAX, "A0 = K0 ^[1];");
        fault(TYPE, "A0 = ^K0;");
        fault(TYPE, "A0 = ^clone K0;");
        fault(TYPE, "A0 = ^clone B0;");
        fault(TYPE, "A0 = ^new B 1;");
        fault(TYPE, "A0 = ^box 1;");
        fault(TYPE, "A0 = ^K0 as B;");
        fault(TYPE, "A0 = ^K0 as box;");
        fault(TYPE, "A0 = ^I0[1];");
        fault(TYPE, "D0 = ^J0[1];");
        fault(TYPE, "D0 = ^I0;");
        fault(TYPE, "I0 = ^J0;");
        fault(TYPE, "I0 = ^new D 1;");
        fault(TYPE, "J0 = ^K0;");
        fault(TYPE, "J0 = ^I0;");
        fault(TYPE, "J0 = ^J1[1];");
        fault(TYPE, "J0 = ^box 1;");
        fault(TYPE, "J0 = ^clone K0;");
        fine("A0 = A1; A0 = none; A0 = clone A1; A0 = K0 as A; D0 = I0[1]; D0 = K0 as D; I0 = I1; I0 = new I 1, 1;"
            + " J0 = K0 as J; J0 = K0 as N; J0 = K0 as S; K0 = D0; K0 = J0[1];");
        fault(TYPE, "I0[0] = ^A0;");
        fault(TYPE, "I0[0] = ^I1;");
        fault(TYPE, "I0[0] = ^K0;");
        fault(TYPE, "I0[0] = ^clone K0;");
        fault(TYPE, "I0[0] = ^box 1;");
        fine("I0[0] = none; I0[0] = D0; I0[0] = new D 1; I0[0] = clone D0; I0[0] = I1[1]; I0[0] = K0 as D;");
        fault(TYPE, "J0[0] = ^K0;");
        fault(TYPE, "J0[0] = ^J1;");
        fault(TYPE, "J0[0] = ^clone K0;");
        fault(TYPE, "J0[0] = ^I0[1];");
        fault(TYPE, "J0[0] = ^K0 as J;");
        fault(TYPE, "J0[0] = ^new J 1;");
        fine("J0[0] = none; J0[0] = box 1; J0[0] = note 1, 1; J0[0] = seal 1, 1; J0[0] = J1[1]; J0[0] = K0 as box;"
            + " J0[0] = K0 as note; J0[0] = K0 as seal;");
        fault(TYPE, "print worth(^K0);");
        fault(TYPE, "print worth(^J0);");
        fault(TYPE, "print worth(^K0 ;");
        fault(TYPE, "print worth(^clone K0);");
        fault(TYPE, "print worth(^I0[1]);");
        fine("print worth(none) + worth(J0[1]) + worth(box 1) + worth(note 1, 1) + worth(K0 as box) + worth(K0 as seal);");
        fine("print same(A0, B0); print same(K0, box 1); print same(clone K0, J0[1]); print same(I0[1], none);");
    }

    private static void ends() {
        String[] ending = {"", "print 1;", "return 1; print 1;", "if b { return 1; }", "if b { return 1; } else { }",
            "if b { return 1; } else if b { return 1; }", "if b { } else { return 1; }", "while true { return 1; }",
            "undo { }", "try { return 1; } on any { }", "try { } on any { return 1; }",
            "try { return 1; } on zero { return 1; } on any { }", "try { return 1; } on any { print 1; } always { }",
            "try { } always { print 1; }", "if b { return 1; } else if b { } else { return 1; }", "a(b);", "let q = 1;"};
        for (String statements : ending) {
            Sheet.fault(TYPE, "macro a(b t) i { " + statements + " ^}");
            Sheet.fine("macro a(b t) { " + statements.replace("return 1", "return") + " }");
        }
        String[] not = {"return 1;", "fail 1;", "print 1; return 1;", "if b { return 1; } else { fail 1; }",
            "if b { return 1; } else if b { return 1; } else { return 1; }", "undo { return 1; }", "undo { fail 1; }",
            "try { } always { return 1; }", "try { } on any { } always { fail 1; }", "try { return 1; } always { }",
            "try { return 1; } on zero { return 1; } on any { fail 1; }",
            "undo { try { if b { return 1; } else { fail 2; } } on any { return 3; } }"};
        for (String statements : not) {
            Sheet.fine("macro a(b t) i { " + statements + " }");
        }
    }

    private static void many() {
        StringBuilder macros = new StringBuilder();
        for (int i = 0; i < 40; i++) {
            macros.append("macro m").append(i).append("(){} ");
        }
        Sheet.fine(macros.toString());
        Sheet.fault(MANY, macros + "macro ^m40(){}");
        Sheet.fault(MANY, "macro m(a i, c i, e i, g i, h i, j i, ^k i) {}");
        String seven = "let a1 = 1; let a2 = 1; let a3 = 1; let a4 = 1; let a5 = 1; let a6 = 1; let a7 = 1;";
        fine(seven);
        fault(MANY, seven + " let ^a8 = 1;");
        fault(MANY, seven + " try { } on any ^a8 { }");
        fine(seven.replace("let a7 = 1;", "") + " if b { let a7 = 1; } try { } on any a7 { } on any a8 { } let a8 = 1;");
        fine("if b { ".repeat(9) + "} ".repeat(9));
        fault(MANY, "if b { ".repeat(9) + "if b ^{ ");
        fault(MANY, "try { ".repeat(9) + "undo ^{");
        fault(MANY, "while b { ".repeat(8) + "if b { } else if b { } else { try ^{ }");
        fault(MANY, "while b { ".repeat(9) + "try ^{ } on any { }");
        fine("print " + "(".repeat(12) + "1" + ")".repeat(12) + ";");
        fault(MANY, "print " + "(".repeat(12) + "^(1");
        fine("print " + "- ".repeat(12) + "1;");
        fault(MANY, "print " + "- ".repeat(12) + "^- 1;");
        fine("print " + "not ".repeat(12) + "b;");
        fault(MANY, "print " + "not ".repeat(12) + "^not b;");
        fine("print " + "A0[".repeat(12) + "1" + "]".repeat(12) + ";");
        fault(MANY, "print " + "A0[".repeat(12) + "A0^[1");
        fault(MANY, "print " + "abs(".repeat(12) + "abs^(1");
        fault(MANY, "A0[" + "abs(".repeat(11) + "^- 1");
        fine("A0[" + "abs(".repeat(11) + "1" + ")".repeat(11) + "] = " + "(".repeat(12) + "1" + ")".repeat(12) + ";");
        fault(MANY, "m(" + "(".repeat(11) + "size I0^[1");
        fault(MANY, "print not same(box worth(J0[" + "- ".repeat(8) + "abs^(1");
        fine("print not same(box worth(J0[" + "- ".repeat(8) + "1]), K0);");
        fine("print - (1) + - (2) * (3) - - (4);");
        fine("print not (b and not (b or not b)) and not b;");
        Sheet.fault(MANY, ";".repeat(2000) + "^;");
        Sheet.fault(SYNTAX, "^" + ";".repeat(2000));
        Sheet.fault(TOKEN, ";".repeat(1999) + "^#;;;;");
    }

    private static void firstMet() {
        fault(NAME, "print ^q + b; print b + 1;");
        fault(TYPE, "print b ^+ 1; print q;");
        fault(SYNTAX, "print ^; print q;");
        fault(NAME, "^q(b + 1);");
        fault(TYPE, "n = b ^+ 1;");
        fault(TYPE, "A0[b ^+ 1] = q;");
        fault(NAME, "A0[^q] = b + 1;");
        fault(TYPE, "print ^abs(b) + q;");
        fault(NAME, "print abs(^q, 1);");
        fault(TYPE, "print abs(b, 1^) + q;");
        Sheet.fault(TYPE, "macro a() i { ^} q");
    }
}
