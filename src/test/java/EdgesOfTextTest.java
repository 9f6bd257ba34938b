/** The edges of what a text may be: each on both sides, the last that is taken and the first that is not. */
public final class EdgesOfTextTest {
    private static final int TOKEN = 1;
    private static final int SYNTAX = 2;
    private static final int NAME = 3;
    private static final int TWICE = 4;
    private static final int TYPE = 5;
    private static final int MANY = 6;

    private static final String[] LITERALS = {"1", "1l", "1.0f", "1.0", "true"};
    private static final String TYPES = "ilfdt";
    private static final String FUNCTIONS = "int long float double byte short sign bits real abs min max floor ceil rint sqrt"
        + " signum round ulp up down copysign fma scalb exponent nans";
    private static final String OTHER_WORDS = "macro let if else while try on always undo fail return print copy new clone none"
        + " box note seal num mark size worth same is as and or not true false nan inf i l f d t missing place count kind"
        + " element zero own deep any";

    public static void main(String[] args) {
        bytesThatBeginNone();
        blanks();
        words();
        wordsThatAreNoNames();
        cellsAndLanes();
        wholeNumbers();
        realNumbers();
        signsBetweenTwo();
        signs();
        tokensMost();
        placesOfFaults();
        programs();
        blocksOfTry();
        macrosMost();
        namesMost();
        namesThatAreThere();
        parametersMost();
        blocksMost();
        openMost();
        operatorTypes();
        functionTypes();
        functionCounts();
        whatGoesToNames();
        whatGoesToElements();
        whatGoesToCells();
        whatGoesIntoThings();
        calls();
        returns();
        behindCells();
        lengthOfChains();
        Sheet.end();
    }

    private static String in(String statements) {
        return "macro m(n i, k l, x f, y d, b t) { " + statements + " }";
    }

    private static void fault(int kind, String statements) {
        Sheet.fault(kind, in(statements));
    }

    private static void fine(String statements) {
        Sheet.fine(in(statements));
    }

    // 1 TOKEN.

    private static void bytesThatBeginNone() {
        String begins = "abcdefghijklmnopqrstuvwxyzABCDEFGHIJNS0123456789{}()[],;.=+-*/%<>\t\n\r ";
        for (int b = 0; b < 256; b++) {
            String text = "macro m() { " + (char) b + " }";
            LaneSheet sheet = new LaneSheet();
            Sheet.compile(sheet, text);
            boolean isToken = begins.indexOf(b) >= 0;
            Sheet.due("byte " + b, sheet.fault(0) == TOKEN ? 1 : 0, isToken ? 0 : 1);
            if (!isToken) {
                Sheet.due("place of byte " + b, sheet.fault(1), 12);
            }
        }
        for (int b = 128; b < 256; b++) {
            Sheet.fault(TOKEN, "macro m() { print 1^" + (char) b + "; }");
        }
    }

    private static void blanks() {
        for (char blank : new char[] {9, 10, 13, 32}) {
            Sheet.fine("macro m ( n i ) i { print n <= 1 ; return n + 1 ; }".replace(' ', blank));
            Sheet.fine(String.valueOf(blank).repeat(30) + "macro" + blank + blank + "m(){}" + blank);
        }
        for (char other : new char[] {0, 8, 11, 12, 14, 31, 127, 128, 160, 255}) {
            Sheet.fault(TOKEN, "macro m()^" + other + "{}");
        }
        Sheet.fine("macro m(n i)i{let k=n+1;if k<=n{print-k;}else{print k;}return k;}");
        Sheet.fault(SYNTAX, "^macrom(){}");
        Sheet.fault(SYNTAX, "macro m(n^){}");
        Sheet.fault(SYNTAX, "macro m(ni^){}");
    }

    private static void words() {
        for (String word : new String[] {"a", "z", "a0", "z9", "abcdefghijk", "abcdefghijkl", "a12345678901", "zzzzzzzzzzzz"}) {
            Sheet.fine("macro " + word + "(" + word + " i) i { return " + word + "; }");
        }
        for (String word : new String[] {"abcdefghijklm", "a123456789012", "zzzzzzzzzzzzz", "macromacroma1", "a".repeat(40)}) {
            Sheet.fault(TOKEN, "macro ^" + word + "() { }");
            Sheet.fault(TOKEN, "macro m() { print 1; } ^" + word);
        }
        // They differ by each of their signs, the last one too.
        Sheet.fault(NAME, "macro abcdefghijkl() { } macro m() { ^abcdefghijkm(); }");
        Sheet.fault(NAME, "macro abcdefghijkl() { } macro m() { ^bbcdefghijkl(); }");
        Sheet.fault(NAME, "macro abcdefghijkl() { } macro m() { ^abcdefghijk(); }");
        Sheet.fault(NAME, "macro a0() { } macro m() { ^a(); }");
        Sheet.fault(NAME, "macro a1() { } macro m() { ^a2(); }");
        Sheet.fault(NAME, "macro z() { } macro m() { ^z0(); }");
        Sheet.fine("macro a() { } macro a0() { } macro aa() { } macro a00() { } macro b() { } macro a9() { } macro az() { }");
        // A word begins with a small letter, and ends ahead of a capital.
        Sheet.fault(SYNTAX, "macro ^9a() { }");
        Sheet.fault(SYNTAX, "macro ^A() { }");
        Sheet.fault(SYNTAX, "macro a^B() { }");
        Sheet.fault(TOKEN, "macro a^_b() { }");
    }

    private static void wordsThatAreNoNames() {
        for (String word : (OTHER_WORDS + " " + FUNCTIONS).split(" ")) {
            Sheet.fault(SYNTAX, "macro ^" + word + "() { }");
            Sheet.fault(SYNTAX, "macro m(^" + word + " i) { }");
            Sheet.fault(SYNTAX, "macro m() { let ^" + word + " = 1; }");
            Sheet.fault(SYNTAX, "macro m() { try { } on any ^" + word + " { } }");
            // One sign more or less makes a NAME of most of them.
            String longer = word + "0";
            Sheet.fine("macro " + longer + "(" + longer + " i) i { return " + longer + "; }");
        }
        for (String word : "macr le els whil tr o alway und fai retur prin cop ne clon non bo not1 sea nu mar siz wort sam a an"
            .split(" ")) {
            Sheet.fine("macro " + word + "() { let " + word + " = 1; }");
        }
    }

    private static void cellsAndLanes() {
        for (char column = 'A'; column <= 'Z'; column++) {
            for (char row = '0'; row <= '9'; row++) {
                String text = "macro m() { ^" + column + row + " = none; }";
                if (column <= 'K' && row <= '7') {
                    Sheet.fine(text.replace("^", ""));
                } else {
                    boolean isLane = "ABCDEFGHIJNS".indexOf(column) >= 0 && row > '7';
                    Sheet.fault(isLane ? SYNTAX : TOKEN, text);
                }
            }
            boolean isLane = "ABCDEFGHIJNS".indexOf(column) >= 0;
            if (isLane) {
                Sheet.fine("macro m() { K0 = new " + column + " 1; }");
                Sheet.fine("macro m() { K0 = new " + column + "8; K0 = new " + column + "9; K0 = new " + column + "(1); }");
                Sheet.fault(column < 'K' ? SYNTAX : TOKEN, "macro m() { K0 = new ^" + column + "7; }");
                Sheet.fault(column < 'K' ? SYNTAX : TOKEN, "macro m() { K0 = new ^" + column + "0; }");
            } else {
                Sheet.fault(TOKEN, "macro m() { K0 = new ^" + column + " 1; }");
                Sheet.fault(TOKEN, "macro m() { ^" + column);
            }
        }
        fine("A0=none;K7=none;A0=A1;K7=A0;");
        for (char column : "ABCDEFGHIJNS".toCharArray()) {
            fault(SYNTAX, "K7 = new " + column + "^/2;");
            fault(SYNTAX, "print K7 is " + column + "^/2;");
        }
        fault(TOKEN, "K7 = new ^K/2;");
        fault(TOKEN, "K7 = new A^:2;");
        fault(SYNTAX, "K7 = A0^7;");
        fault(SYNTAX, "K7 = A0^x;");
        fault(SYNTAX, "K7 = A0^A0;");
    }

    private static void wholeNumbers() {
        for (String number : new String[] {"0", "00", "2147483646", "2147483647", "0002147483647", "0l", "2147483648l",
            "9223372036854775806l", "9223372036854775807l", "00009223372036854775807l"}) {
            fine("print " + number + ";");
            fine("k = " + number + ";");
        }
        for (String number : new String[] {"2147483648", "2147483650", "3000000000", "9999999999", "99999999999999999999",
            "9223372036854775807", "9223372036854775808l", "9223372036854775810l", "9999999999999999999l",
            "10000000000000000000l", "18446744073709551616l", "99999999999999999999999999999l"}) {
            fault(TOKEN, "print ^" + number + ";");
            fault(TOKEN, "print - ^" + number + ";");
            fault(TOKEN, "print 1; ^" + number);
        }
        // As long as can be: digits, then l, then nothing more.
        fault(SYNTAX, "print 1l^l;");
        fault(SYNTAX, "print 1^a;");
        fault(SYNTAX, "print 1^A;");
        fault(SYNTAX, "print 1 ^2;");
        fault(SYNTAX, "print 1 ^l;");
        fault(TYPE, "n = ^1l;");
        fine("k = 1l; n = 1;");
    }

    private static void realNumbers() {
        String[] good = {"0.0", "1.5", "00.10", "12345678901234.5", "1.23456789012345", "0.00000000000000",
            "00000000000000.0"};
        for (String number : good) {
            fine("print " + number + "; y = " + number + ";");
            fine("print " + number + "f; x = " + number + "f;");
            fault(TYPE, "x = ^" + number + ";");
        }
        String[] bad = {"123456789012345.5", "1.234567890123456", "0.000000000000000", "000000000000000.0",
            "9999999999999999.9", "1." + "0".repeat(30), "1".repeat(30) + ".0"};
        for (String number : bad) {
            fault(TOKEN, "print ^" + number + ";");
            fault(TOKEN, "print ^" + number + "f;");
        }
        // Without a digit behind it the point is a sign.
        fault(SYNTAX, "print 1^.;");
        fault(SYNTAX, "print 1^.f;");
        fault(SYNTAX, "print 1^. 5;");
        fault(SYNTAX, "print 1^.a;");
        fault(SYNTAX, "print ^.5;");
        fault(SYNTAX, "print 1.5^.5;");
        fault(SYNTAX, "print 1.5f^f;");
        fault(SYNTAX, "print 1.5^l;");
        fault(SYNTAX, "print 1.5 ^f;");
        fault(SYNTAX, "print 1l^.5;");
        fault(TOKEN, "print ^2147483648.;");
        fault(SYNTAX, "print 2147483647^.;");
        Sheet.fault(SYNTAX, "macro m() { print 1.5^");
        Sheet.fault(SYNTAX, "macro m() { print 1^.");
    }

    private static void signsBetweenTwo() {
        StringBuilder all = new StringBuilder();
        StringBuilder want = new StringBuilder();
        for (int sign = 32; sign <= 126; sign++) {
            all.append("print '").append((char) sign).append("';");
            want.append(sign == 32 ? "" : " ").append(sign);
        }
        LaneSheet sheet = Sheet.ran(all.toString(), want.toString());
        Sheet.due("an I", Sheet.out(sheet, 0, 0), 1);
        for (char sign : new char[] {0, 9, 10, 13, 30, 31, 127, 128, 160, 255}) {
            fault(TOKEN, "print ^'" + sign + "';");
        }
        for (String wrong : new String[] {"'a", "'ab'", "''", "'a ", "' ", "'", "''a", "'a\""}) {
            fault(TOKEN, "print ^" + wrong + ";");
            Sheet.fault(TOKEN, "macro m() { print ^" + wrong);
        }
        fine("n = '''+'''; print '''; print '\"';");
        fault(SYNTAX, "print 'a'^'b';");
    }

    private static void signs() {
        for (String sign : "{ } ( ) [ ] , ; . = + - * / % < <= > >= == !=".split(" ")) {
            Sheet.fault(SYNTAX, "macro m() { } ^" + sign);
        }
        for (String sign : "! !a ! = & | ~ ^ ? : # $ @ \\ \" ` _".split(" ")) {
            LaneSheet sheet = new LaneSheet();
            String text = "macro m() { } " + sign;
            if (!sign.equals("=")) {
                Sheet.due("TOKEN of " + sign, Sheet.compile(sheet, text), -1);
                Sheet.due("TOKEN of " + sign, sheet.fault(0), TOKEN);
                Sheet.due("place of " + sign, sheet.fault(1), 14);
            }
        }
        fine("b=n<1;b=n<=1;b=n>1;b=n>=1;b=n==1;b=n!=1;");
        fault(SYNTAX, "b = n < ^= 1;");
        fault(SYNTAX, "b = n > ^= 1;");
        fault(SYNTAX, "print n ^= = 1;");
        fault(TOKEN, "b = n ^! = 1;");
        fault(SYNTAX, "b = n <=^= 1;");
        fault(SYNTAX, "b ^== true;");
        fault(SYNTAX, "b = n <^> 1;");
        fault(SYNTAX, "print n ^=> 1;");
    }

    // 6 MANY: the 2001st token.

    private static void tokensMost() {
        String fill = "n=1;".repeat(498);
        String most = "macro m(n i){" + fill + "}";
        LaneSheet sheet = new LaneSheet();
        Sheet.due("2000 tokens", Sheet.compile(sheet, most), 1);
        Sheet.due("all of them are read", sheet.run(0, 5000, 0, 0, 0), 0);
        Sheet.due("all of them are read", sheet.about(4), 498);
        Sheet.fault(MANY, most + "^}");
        Sheet.fault(MANY, most + "   ^macro n(){}");
        Sheet.fault(MANY, "macro m(n i){" + fill + ";^}");
        Sheet.fault(SYNTAX, "macro m(n i){" + fill + "^;");
        Sheet.fault(SYNTAX, "macro m(n i){" + fill + "n^");
        Sheet.fault(SYNTAX, "macro m(n i){" + fill + "n   ^");
        Sheet.fault(SYNTAX, "^" + ";".repeat(2000) + " ".repeat(2000));
        Sheet.fault(MANY, ";".repeat(2000) + "^" + ";".repeat(2000));
        // What is cut goes ahead of what is read.
        Sheet.fault(TOKEN, "}".repeat(1999) + "^#;;");
        Sheet.fault(TOKEN, "macro macro ( ^#");
        Sheet.fault(TOKEN, "macro m() { q = 1; let let ^'ab");
    }

    /** The token's first byte, the size at the end. */
    private static void placesOfFaults() {
        Sheet.fault(SYNTAX, "^");
        Sheet.fault(SYNTAX, " \t\r\n ^");
        Sheet.fault(SYNTAX, "macro^");
        Sheet.fault(SYNTAX, "macro    ^");
        Sheet.fault(SYNTAX, "macro m(){^");
        Sheet.fault(SYNTAX, "macro m(){  ^");
        Sheet.fault(SYNTAX, "macro m(){}  ^]  ");
        Sheet.fault(SYNTAX, "macro m(){} ^1234.5f ");
        Sheet.fault(SYNTAX, " ".repeat(3998) + "^<=");
        Sheet.fault(SYNTAX, " ".repeat(3999) + "^;");
        Sheet.fault(SYNTAX, " ".repeat(4000) + "^");
        Sheet.fault(TOKEN, " ".repeat(3999) + "^#");
        Sheet.fault(TOKEN, "^#" + " ".repeat(3999));
        Sheet.fault(TOKEN, " ".repeat(3987) + "^" + "a".repeat(13));
        Sheet.fault(SYNTAX, " ".repeat(3988) + "^" + "a".repeat(12));
        Sheet.fault(TOKEN, " ".repeat(3999) + "^'");
        Sheet.fault(TOKEN, " ".repeat(3998) + "^'a");
        Sheet.fault(SYNTAX, " ".repeat(3997) + "^'a'");
        Sheet.fault(SYNTAX, " ".repeat(3998) + "^A0");
        Sheet.fault(SYNTAX, " ".repeat(3999) + "^A");
        Sheet.fault(TOKEN, " ".repeat(3999) + "^K");
        Sheet.fault(TOKEN, " ".repeat(3999) + "^!");
        Sheet.fault(SYNTAX, " ".repeat(3998) + "^1.");
        Sheet.fault(SYNTAX, " ".repeat(3997) + "^1.5");
    }

    private static void programs() {
        Sheet.fault(SYNTAX, "^{}");
        Sheet.fine("macro m(){}");
        Sheet.fault(SYNTAX, "macro m()^;");
        Sheet.fault(SYNTAX, "macro m(){}^;");
        Sheet.fault(SYNTAX, "macro m(){}^{}");
        Sheet.fault(SYNTAX, "macro m(^,n i){}");
        Sheet.fault(SYNTAX, "macro m(n i,^){}");
        Sheet.fault(SYNTAX, "macro m(n i^;){}");
        for (char type : TYPES.toCharArray()) {
            Sheet.fine("macro m(n " + type + ") " + type + " { return n; }");
            Sheet.fault(SYNTAX, "macro m() " + type + "^;");
        }
        for (String type : "int long float double a none".split(" ")) {
            Sheet.fault(SYNTAX, "macro m(n ^" + type + ") { }");
            Sheet.fault(SYNTAX, "macro m() ^" + type + " { }");
        }
    }

    /** One on or always at least; always is the last one. */
    private static void blocksOfTry() {
        fault(SYNTAX, "try { } ^}");
        fault(SYNTAX, "try { } ^print 1;");
        fault(SYNTAX, "try { } ^try { }");
        fine("try { } on any { }");
        fine("try { } always { }");
        fine("try { } on any { } always { }");
        fine("try { } " + "on own { } ".repeat(30) + "always { }");
        fault(SYNTAX, "try { } always { } ^always { }");
        fault(SYNTAX, "try { } always { } ^on any { }");
        for (String kind : "missing place count kind element zero own deep any".split(" ")) {
            fine("try { } on " + kind + " { } on " + kind + " e { n = e; }");
        }
        for (String kind : "token syntax name twice type many full cut all else n 7".split(" ")) {
            LaneSheet sheet = new LaneSheet();
            Sheet.due("no KIND " + kind, Sheet.compile(sheet, in("try { } on " + kind + " { }")), -1);
            Sheet.due("no KIND " + kind, sheet.fault(0), SYNTAX);
            Sheet.due("no KIND " + kind, sheet.fault(1), in("try { } on ").length() - 2);
        }
    }

    // 6 MANY: the 41st macro, 13th NAME that is there, 7th parameter: at its NAME.

    private static void macrosMost() {
        StringBuilder text = new StringBuilder();
        for (int i = 0; i < 39; i++) {
            text.append("macro m").append(i).append("(){} ");
        }
        Sheet.fine(text.toString());
        Sheet.fine(text + "macro m39(){ m0(); m38(); m39(); }");
        Sheet.fault(MANY, text + "macro m39(){} macro ^m40(){}");
        Sheet.fault(SYNTAX, text + "macro m39(){} macro ^");
        Sheet.fault(TWICE, text + "macro ^m38(){}");
        Sheet.fault(TWICE, text + "macro ^m0(){}");
    }

    private static void namesMost() {
        for (int parameters = 0; parameters <= 6; parameters++) {
            StringBuilder text = new StringBuilder("macro m(");
            for (int i = 0; i < parameters; i++) {
                text.append(i == 0 ? "p" : ", p").append(i).append(" i");
            }
            text.append(") { ");
            for (int i = parameters; i < 11; i++) {
                text.append("let q").append(i).append(" = ").append(i).append("; ");
            }
            Sheet.fine(text + "let r = 5; }");
            Sheet.fault(MANY, text + "let r = 5; let ^s = 6; }");
            Sheet.fault(MANY, text + "let r = 5; if true { while true { undo { let ^s = 1; } } } }");
            Sheet.fault(MANY, text + "let r = 5; try { } on any ^e { } }");
            Sheet.fine(text + "try { } on any e { } let r = 5; }");
            Sheet.fault(MANY, text + "try { } on any e { let ^r = 5; } }");
            // Those of a BLOCK that has ended are there no more.
            Sheet.fine(text + "if true { let r = 5; } else { let s = 6; } try { let s = 7; } on own e { } on any e { } always"
                + " { let s = 8; } while false { let r = 9; } undo { let s = 1; } let s = 2; }");
        }
        // The twelve have room of their own, each.
        StringBuilder text = new StringBuilder();
        StringBuilder printed = new StringBuilder();
        StringBuilder want = new StringBuilder();
        for (int i = 0; i < 12; i++) {
            text.append("let q").append(i).append(" = ").append(i * i).append("; ");
            printed.append("print q").append(i).append("; ");
            want.append(i == 0 ? "" : " ").append(i * i);
        }
        Sheet.ran(text + "" + printed, want.toString());
        // Each macro has twelve of its own.
        Sheet.fine("macro m() { " + text + "} macro n() { " + text + "}");
    }

    private static void namesThatAreThere() {
        // Of let behind its ; to the end of its BLOCK.
        fault(NAME, "let q = ^q;");
        fault(NAME, "let q = 1 + ^q; print q;");
        fine("let q = 1; print q; if b { print q; } while b { print q; } try { print q; } on any { print q; } always { print q; }");
        fault(NAME, "if b { let q = 1; print q; } print ^q;");
        fault(NAME, "if b { let q = 1; } else { print ^q; }");
        fault(NAME, "while b { let q = 1; } ^q = 1;");
        fault(NAME, "try { let q = 1; } on any { print ^q; }");
        fault(NAME, "try { let q = 1; } always { print ^q; }");
        fault(NAME, "undo { let q = 1; } print ^q;");
        // Of on in its BLOCK.
        fine("try { } on any e { print e; e = 5; } on zero e { print e; }");
        fault(NAME, "try { print ^e; } on any e { }");
        fault(NAME, "try { } on any e { } on own { print ^e; }");
        fault(NAME, "try { } on any e { } always { print ^e; }");
        fault(NAME, "try { } on any e { } print ^e;");
        fault(TWICE, "try { } on any e { let ^e = 1; }");
        fault(TWICE, "let e = 1; try { } on any ^e { }");
        fault(TYPE, "try { } on any e { e = ^1l; }");
        // Of parameters in the macro.
        Sheet.fault(NAME, "macro a(p i) { } macro c() { print ^p; }");
        Sheet.fault(TWICE, "macro a(p i, ^p l) { }");
        Sheet.fault(TWICE, "macro a(p i) { let ^p = 1; }");
        Sheet.fine("macro a(p i) { print p; } macro c(p l) { print p; }");
        // A macro in its own BLOCK and behind it; its name may be a NAME's, too.
        Sheet.fine("macro a() { a(); } macro c() { a(); c(); }");
        Sheet.fault(NAME, "macro a() { ^c(); } macro c() { }");
        Sheet.fault(TWICE, "macro a() { } macro c() { } macro ^a() { }");
        Sheet.fine("macro a(a i) i { let c = a; return a(c); } macro c(a i) i { let c = a(a); return c(c); }");
        Sheet.fault(NAME, "macro a() i { return 1; } macro c() { print ^a; }");
        Sheet.fault(NAME, "macro a() i { return 1; } macro c() { ^a = 1; }");
        Sheet.fault(NAME, "macro c(a i) { print ^a(1); }");
        Sheet.fault(NAME, "macro c(a i) { ^a(1); }");
    }

    private static void parametersMost() {
        String six = "a i, c l, e f, g d, h t, j i";
        Sheet.fine("macro m(" + six + ") { m(a, c, e, g, h, j); }");
        Sheet.fault(MANY, "macro m(" + six + ", ^k i) { }");
        Sheet.fault(SYNTAX, "macro m(" + six + ", ^i");
        Sheet.fault(SYNTAX, "macro m(" + six + ",^) { }");
    }

    // 6 MANY: the 11th BLOCK or the 13th ( [ not, - ahead open in one another: at it.

    private static void blocksMost() {
        String[] openings = {"if b { ", "if b { } else { ", "if b { } else if b { ", "while b { ", "try { ",
            "try { } on any { ", "try { } on own { } on any e { ", "try { } always { ", "undo { "};
        String[] closings = {"} ", "} ", "} ", "} ", "} on any { } ", "} ", "} ", "} ", "} "};
        for (int i = 0; i < openings.length; i++) {
            // A BLOCK beside it and ahead of it is the 11th, too.
            int brace = openings[i].indexOf('{');
            String eleventh = openings[i].substring(0, brace) + "^" + openings[i].substring(brace);
            for (int j = 0; j < openings.length; j++) {
                // A NAME of on would come up twice.
                String unit = openings[j].contains(" e ") ? "undo { " : openings[j];
                String close = openings[j].contains(" e ") ? "} " : closings[j];
                fine(unit.repeat(8) + openings[i] + closings[i] + close.repeat(8));
                fault(MANY, unit.repeat(9) + eleventh);
            }
        }
        fine("if b { ".repeat(9) + "print 1; " + "} ".repeat(9) + "if b { ".repeat(9) + "} ".repeat(9));
        fine("if b { } ".repeat(40));
        Sheet.fine("macro m(b t) { " + "if b { ".repeat(9) + "} ".repeat(9) + "} macro n(b t) { " + "if b { ".repeat(9)
            + "} ".repeat(9) + "}");
        fault(SYNTAX, "if b { ".repeat(9) + "if b ^;");
    }

    private static void openMost() {
        // Each that is open, the sign that counts behind a ^, and what closes it.
        String[][] forms = {{"^(", ")"}, {"abs^(", ")"}, {"min^(1, ", ")"}, {"A0^[", "]"}, {"^- ", ""}, {"size I0^[", "]"},
            {"g^(", ")"}};
        String text = "macro g(n i) i { return n; } macro m() { print ";
        for (String[] form : forms) {
            String open = form[0].replace("^", "");
            Sheet.fine(text + open.repeat(12) + "1" + form[1].repeat(12) + "; }");
            Sheet.fault(MANY, text + open.repeat(12) + form[0] + "1");
            Sheet.fine(text + "(".repeat(11) + open + "1" + form[1] + ")".repeat(11) + "; }");
            Sheet.fault(MANY, text + "(".repeat(12) + form[0] + "1");
        }
        fine("print " + "(".repeat(11) + "I0[1][1]" + ")".repeat(11) + ";");
        fault(MANY, "print " + "(".repeat(12) + "I0^[1][1]");
        fine("print " + "(".repeat(11) + "worth(box 1)" + ")".repeat(11) + ";");
        fault(MANY, "print " + "(".repeat(12) + "worth^(box 1)");
        fault(MANY, "print " + "(".repeat(10) + "I0[1][(^- 1");
        fine("print " + "(".repeat(10) + "I0[1][- 1]" + ")".repeat(10) + ";");
        fine("print " + "not ".repeat(12) + "b;");
        fault(MANY, "print " + "not ".repeat(12) + "^not b;");
        fine("print " + "(".repeat(11) + "not b" + ")".repeat(11) + ";");
        fault(MANY, "print " + "(".repeat(12) + "^not b");
        fine("print " + "(".repeat(11) + "J0[1].num" + ")".repeat(11) + ";");
        fault(MANY, "print " + "(".repeat(12) + "J0^[1].num");
        fine("print " + "(".repeat(11) + "J0[1] is box" + ")".repeat(11) + ";");
        fault(MANY, "print " + "(".repeat(12) + "J0^[1] is box");
        fine("print " + "(".repeat(12) + "K0 is box" + ")".repeat(12) + ";");
        fine("print " + "(".repeat(11) + "same(A0, A0)" + ")".repeat(11) + ";");
        fault(MANY, "print " + "(".repeat(12) + "same^(A0, A0)");
        fault(MANY, "print " + "(".repeat(11) + "same(I0^[1]");
        fine("print " + "(".repeat(10) + "same(I0[1], J0[1])" + ")".repeat(10) + ";");
        // As far as statements go.
        fine("A0[" + "(".repeat(11) + "1" + ")".repeat(11) + "] = 1;");
        fault(MANY, "A0[" + "(".repeat(11) + "^(1");
        fine("I0[0][" + "(".repeat(11) + "1" + ")".repeat(11) + "] = 1;");
        fault(MANY, "I0[0][" + "(".repeat(11) + "^(1");
        fine("J0[" + "(".repeat(11) + "1" + ")".repeat(11) + "].num = " + "(".repeat(12) + "1" + ")".repeat(12) + ";");
        fine("K0 = I0[" + "(".repeat(11) + "1" + ")".repeat(11) + "];");
        fault(MANY, "K0 = I0[" + "(".repeat(11) + "^(1");
        fine("K0 = new A " + "(".repeat(12) + "1" + ")".repeat(12) + ";");
        fault(MANY, "K0 = new A " + "(".repeat(12) + "^(1");
        fine("copy A0, " + "(".repeat(12) + "1" + ")".repeat(12) + ", A1, " + "- ".repeat(12) + "1, 1;");
        fault(MANY, "copy A0, 1, A1, 1, " + "- ".repeat(12) + "^- 1;");
        Sheet.fine("macro g(n i) { g(" + "(".repeat(11) + "1" + ")".repeat(11) + "); }");
        Sheet.fault(MANY, "macro g(n i) { g(" + "(".repeat(11) + "^(1");
        // The ( of a MACRO's parameters does not count, nor does what is closed.
        Sheet.fine("macro g(n i) i { return " + "(".repeat(12) + "1" + ")".repeat(12) + "; }");
        fine("print " + "(1) + ".repeat(40) + "1;");
        fine("print " + "- 1 * ".repeat(40) + "1;");
        fine("print " + "not b and ".repeat(40) + "b;");
        for (String each : new String[] {"A0[1]", "I0[1][2]", "J0[1].num", "size I0[1]", "worth(box 1)", "abs(1)", "fma(1, 1, 1)", "(1)",
            "min(1, 2)", "- 1", "int(J0[1].mark)"}) {
            fine("print " + (each + " + ").repeat(30) + "1;");
        }
        for (String each : new String[] {"same(A0, A1)", "J0[1] is box", "K0 is box", "same(I0[1], J0[1])", "nans(1.0)", "not (b)",
            "not not b", "same(box A0[1], none)"}) {
            fine("print " + (each + " and ").repeat(30) + "b;");
        }
        Sheet.fine("macro g(n i) i { " + "g(1); A0[1] = 1; J0[1].num = 1; I0[1] = D0; K0 = J0[1]; ".repeat(13) + "return "
            + "g(1) + ".repeat(30) + "1; }");
        fine("print - (- (- (- (- (- 1))))) + - (- (- (- (- (- 1)))));");
        fine("print - (- (- (- (- (- (1))))));");
        fault(MANY, "print - (- (- (- (- (- (^- 1");
        // BLOCKS and these are counted apart.
        fine("if b { ".repeat(9) + "print " + "(".repeat(12) + "1" + ")".repeat(12) + "; " + "} ".repeat(9));
        fine("if " + "(".repeat(12) + "b" + ")".repeat(12) + " { print " + "(".repeat(12) + "1" + ")".repeat(12) + "; }");
        fine("while " + "not ".repeat(12) + "b { print " + "not ".repeat(12) + "b; }");
    }

    // 5 TYPE: what is not as told above.

    /** The TYPE of what is printed, or a FAULT of TYPE at the ^. */
    private static void typeOf(String expression, int want) {
        String text = "macro m() { print " + expression + "; }";
        if (want == 0) {
            Sheet.fault(TYPE, text);
            return;
        }
        LaneSheet sheet = Sheet.of(text.replace("^", ""));
        Sheet.due("run of " + text, sheet.run(0, 5, 0, 0, 0), 0);
        Sheet.due("TYPE of " + text, Sheet.out(sheet, 0, 0), want);
    }

    private static void operatorTypes() {
        for (int left = 1; left <= 5; left++) {
            for (int right = 1; right <= 5; right++) {
                boolean numbers = left < 5 && right < 5;
                String a = LITERALS[left - 1];
                String c = LITERALS[right - 1];
                for (String sign : "+ - * / %".split(" ")) {
                    typeOf(a + " ^" + sign + " " + c, numbers ? Math.max(left, right) : 0);
                }
                for (String sign : "< <= > >=".split(" ")) {
                    typeOf(a + " ^" + sign + " " + c, numbers ? 5 : 0);
                }
                for (String sign : "== !=".split(" ")) {
                    typeOf(a + " ^" + sign + " " + c, numbers || left == right ? 5 : 0);
                }
                for (String sign : "and or".split(" ")) {
                    typeOf(a + " ^" + sign + " " + c, left == 5 && right == 5 ? 5 : 0);
                }
            }
            typeOf("^- " + LITERALS[left - 1], left < 5 ? left : 0);
            typeOf("^not " + LITERALS[left - 1], left == 5 ? 5 : 0);
            typeOf("(" + LITERALS[left - 1] + ")", left);
        }
        // When the right side is read, and not ahead of that.
        fault(NAME, "print b + ^q;");
        fault(NAME, "print 1 and ^q;");
        fault(SYNTAX, "print not ^;");
        fault(NAME, "print - - ^q;");
        fault(TYPE, "print b ^+ 1 + q;");
        fault(TYPE, "print 1 ^and b and q;");
        fault(TYPE, "print b ^< 1 ]");
    }

    private static final String[] FUNCTION_TYPES = {
        // For operands i, l, f, d, t: the TYPE of what comes, 0 a FAULT.
        "int 11110", "long 22220", "float 33330", "double 44440", "byte 11110", "short 11110", "sign 11110", "bits 00120",
        "real 34000", "abs 12340", "floor 44440", "ceil 44440", "rint 44440", "sqrt 44440", "signum 44440", "round 00120",
        "ulp 44340", "up 44340", "down 44340", "exponent 11110", "nans 00550"};

    private static void functionTypes() {
        for (String row : FUNCTION_TYPES) {
            String word = row.substring(0, row.indexOf(' '));
            for (int type = 1; type <= 5; type++) {
                int want = row.charAt(row.indexOf(' ') + type) - '0';
                typeOf("^" + word + "(" + LITERALS[type - 1] + ")", want);
            }
        }
        for (int left = 1; left <= 5; left++) {
            for (int right = 1; right <= 5; right++) {
                String operands = "(" + LITERALS[left - 1] + ", " + LITERALS[right - 1] + ")";
                boolean numbers = left < 5 && right < 5;
                typeOf("^min" + operands, numbers ? Math.max(left, right) : 0);
                typeOf("^max" + operands, numbers ? Math.max(left, right) : 0);
                typeOf("^copysign" + operands, numbers ? (left == 3 && right == 3 ? 3 : 4) : 0);
                typeOf("^scalb" + operands, left < 5 && right == 1 ? 4 : 0);
                for (int third = 1; third <= 5; third++) {
                    typeOf("^fma(" + LITERALS[left - 1] + ", " + LITERALS[right - 1] + ", " + LITERALS[third - 1] + ")",
                        numbers && third < 5 ? 4 : 0);
                }
            }
        }
        // At its end, and not ahead of that.
        fault(SYNTAX, "print abs(b ^;");
        fault(NAME, "print min(b, ^q);");
        fault(TYPE, "print ^abs(b) q;");
    }

    /** Another number of E's than it takes: at the ), ahead of their TYPES. */
    private static void functionCounts() {
        for (String word : FUNCTIONS.split(" ")) {
            int takes = "fma".equals(word) ? 3 : " min max copysign scalb ".contains(" " + word + " ") ? 2 : 1;
            for (int count = 1; count <= 5; count++) {
                String operands = "b, ".repeat(count - 1) + "b";
                if (count == takes) {
                    fault(TYPE, "print ^" + word + "(" + operands + ");");
                } else {
                    fault(TYPE, "print " + word + "(" + operands + "^);");
                }
            }
            fault(SYNTAX, "print " + word + "(^);");
            fault(SYNTAX, "print " + word + "(1,^);");
            fault(SYNTAX, "print " + word + " ^1;");
            fault(SYNTAX, "print " + word + "(1 ^;");
        }
        for (int takes = 0; takes <= 6; takes++) {
            String parameters = takes == 0 ? "" : "a i, c i, e i, g i, h i, j i".substring(0, 5 * takes - 2);
            for (int count = 0; count <= 8; count++) {
                String operands = count == 0 ? "" : "1" + ", 1".repeat(count - 1);
                for (String use : new String[] {"m(%);", "print m(%);", "print 1 + m(%) * 2;"}) {
                    String call = use.replace("%", operands + (count == takes ? "" : "^"));
                    String text = "macro m(" + parameters + ") i { " + call + " return 1; }";
                    if (count == takes) {
                        Sheet.fine(text);
                    } else {
                        Sheet.fault(TYPE, text);
                    }
                }
            }
        }
    }

    /** What goes to a NAME, parameter, result: a number of no greater TYPE than it has, or t to t. */
    private static void whatGoesToNames() {
        for (int to = 1; to <= 5; to++) {
            for (int from = 1; from <= 5; from++) {
                boolean goes = from == to || (from < to && to < 5);
                char type = TYPES.charAt(to - 1);
                String value = LITERALS[from - 1];
                String[] texts = {"macro m(p " + type + ") { p = ^" + value + "; }",
                    "macro m() { let p = " + LITERALS[to - 1] + "; p = ^" + value + "; }",
                    "macro m() " + type + " { return ^" + value + "; }",
                    "macro g(p " + type + ") { } macro m() { g(^" + value + "); }",
                    "macro g(a i, p " + type + ") i { return 1; } macro m() { print g(1, ^" + value + "); }"};
                for (String text : texts) {
                    if (goes) {
                        Sheet.fine(text.replace("^", ""));
                    } else {
                        Sheet.fault(TYPE, text);
                    }
                }
            }
        }
        // if, while: t. fail, indices, counts of new, copy: i.
        for (int from = 1; from <= 5; from++) {
            String value = LITERALS[from - 1];
            for (String use : new String[] {"if ^% { }", "if true { } else if ^% { }", "while ^% { }"}) {
                expect(from == 5, use.replace("%", value));
            }
            for (String use : new String[] {"fail ^%;", "A0[^%] = 1;", "print A0[^%];", "I0[^%] = none;", "I0[0][^%] = 1;",
                "print I0[^%][0];", "print I0[0][^%];", "J0[^%].num = 1;", "print J0[^%].mark;", "print J0[^%] is box;",
                "print size I0[^%];", "K0 = I0[^%];", "K0 = J0[^%];", "K0 = new A ^%;", "K0 = new I ^%;", "K0 = new I ^%, 1;",
                "K0 = new I 1, ^%;", "copy A0, ^%, A0, 1, 1;", "copy A0, 1, A0, ^%, 1;", "copy A0, 1, A0, 1, ^%;",
                "print worth(J0[^%]);", "print same(none, I0[^%]);", "K0 = note 1, ^%;", "K0 = seal 1, ^%;",
                "print scalb(1.0, 1) + A0[^%];"}) {
                expect(from == 1, use.replace("%", value));
            }
            for (String use : new String[] {"K0 = box ^%;", "K0 = note ^%, 1;", "K0 = seal ^%, 1;", "J0[0].num = ^%;"}) {
                expect(from <= 2, use.replace("%", value));
            }
            fine("print " + value + "; let p = " + value + "; print p;");
        }
    }

    private static void expect(boolean goes, String statement) {
        if (goes) {
            fine(statement.replace("^", ""));
        } else {
            fault(TYPE, statement);
        }
    }

    private static void whatGoesToElements() {
        String[] elements = {"A0[0]", "B0[0]", "C0[0]", "D0[0]", "E0[0]", "F0[0]", "G0[0]", "H0[0]", "I0[0][0]", "J0[0].num",
            "J0[0].mark"};
        // i, l, f, d, t: whether it goes there; then the TYPE that the element itself has.
        String[] goes = {"100001", "100001", "100001", "100001", "110002", "111003", "111104", "000015", "100001", "110002",
            "100001"};
        for (int i = 0; i < elements.length; i++) {
            for (int from = 1; from <= 5; from++) {
                expect(goes[i].charAt(from - 1) == '1', elements[i] + " = ^" + LITERALS[from - 1] + ";");
            }
            int type = goes[i].charAt(5) - '0';
            for (int to = 1; to <= 5; to++) {
                String name = "nkxyb".substring(to - 1, to);
                expect(type == to || (type < to && to < 5), name + " = ^" + elements[i] + ";");
            }
        }
        String[] others = {"size A0", "size I0[0]", "same(A0, A0)", "K0 is A", "J0[0] is box", "worth(none)", "nan", "inf"};
        int[] types = {1, 1, 5, 5, 5, 2, 4, 4};
        for (int i = 0; i < others.length; i++) {
            for (int to = 1; to <= 5; to++) {
                String name = "nkxyb".substring(to - 1, to);
                expect(types[i] == to || (types[i] < to && to < 5), name + " = ^" + others[i] + ";");
            }
        }
    }

    private static final String[] THINGS = {"none", "A1", "B1", "C1", "D1", "E1", "F1", "G1", "H1", "I1", "J1", "K1",
        "K1 as A", "K1 as B", "K1 as C", "K1 as D", "K1 as E", "K1 as F", "K1 as G", "K1 as H", "K1 as I", "K1 as J", "K1 as N",
        "K1 as S", "K1 as box", "K1 as note", "K1 as seal", "clone A1", "clone B1", "clone C1", "clone D1", "clone E1",
        "clone F1", "clone G1", "clone H1", "clone I1", "clone J1", "clone K1", "new A 1", "new B 1", "new C 1", "new D 1",
        "new E 1", "new F 1", "new G 1", "new H 1", "new I 1", "new I 1, 1", "new J 1", "new N 1", "new S 1", "I1[0]", "J1[0]",
        "box 1", "note 1, 1", "seal 1, 1"};
    /** The LANE of each of THINGS; ? none known, . no row but a box, 0 none. */
    private static final String LANES = "0ABCDEFGHIJ?" + "ABCDEFGHIJNS..." + "ABCDEFGHIJ?" + "ABCDEFGHIIJNS" + "D." + "...";

    private static void whatGoesToCells() {
        for (int i = 0; i < THINGS.length; i++) {
            char lane = LANES.charAt(i);
            for (char column = 'A'; column <= 'K'; column++) {
                boolean goes = lane == '0' || column == 'K' || lane == column
                    || (column == 'J' && (lane == 'N' || lane == 'S'));
                expect(goes, column + "0 = ^" + THINGS[i] + ";");
            }
            expect(lane == '0' || lane == 'D', "I0[0] = ^" + THINGS[i] + ";");
            expect(lane == '0' || lane == '.', "J0[0] = ^" + THINGS[i] + ";");
            expect(lane == '0' || lane == '.', "print worth(^" + THINGS[i] + ");");
            if (!THINGS[i].equals("new I 1")) {
                fine("print same(" + THINGS[i] + ", none);");
            }
            fine("print same(none, " + THINGS[i] + ");");
        }
    }

    private static void whatGoesIntoThings() {
        // A , behind new I E is its own.
        fine("print same(new I 1, 2, none);");
        fault(SYNTAX, "print same(new I 1, ^none);");
        fault(SYNTAX, "print same(new I 1, 2^);");
        fine("print same(new A 1, none);");
        fine("I0 = new I 1; I0 = new I 1, 2; J0 = new J 1;");
        for (char lane : "ABCDEFGHJNS".toCharArray()) {
            fault(SYNTAX, "K0 = new " + lane + " 1^, 2;");
        }
        fault(SYNTAX, "K0 = new I 1, 2^, 3;");
        fault(SYNTAX, "K0 = box 1^, 2;");
        fault(SYNTAX, "K0 = note 1^;");
        fault(SYNTAX, "K0 = seal 1^;");
        fault(SYNTAX, "K0 = note 1, 2^, 3;");
    }

    private static void calls() {
        // A call of a macro without TYPE in E: at its name, at once.
        Sheet.fault(TYPE, "macro g() { } macro m() { print ^g(); }");
        Sheet.fault(TYPE, "macro g() { } macro m() { print 1 + ^g(q]");
        Sheet.fault(TYPE, "macro g() { print ^g(); }");
        Sheet.fault(TYPE, "macro g(n i) { g(^g(1)); }");
        Sheet.fine("macro g() i { return 1; } macro m() { g(); print g(); }");
        Sheet.fine("macro g() { } macro m() { g(); }");
        Sheet.fault(SYNTAX, "macro g() i { return 1; } macro m() { g() ^+ 1; }");
        // An E goes to its parameter when it is read.
        Sheet.fault(TYPE, "macro g(n i, k i) { } macro m() { g(^true, q); }");
        Sheet.fault(NAME, "macro g(n i, k i) { } macro m() { g(1, ^q, true); }");
        Sheet.fault(TYPE, "macro g(n i) { } macro m() { g(1, true^); }");
        Sheet.fault(NAME, "macro g(n i) { } macro m() { g(1, ^q); }");
    }

    private static void returns() {
        Sheet.fault(TYPE, "macro m() i { ^return; }");
        Sheet.fault(TYPE, "macro m() { ^return 1; }");
        Sheet.fault(TYPE, "macro m() { ^return q; }");
        Sheet.fault(TYPE, "macro m() { ^return ( }");
        Sheet.fine("macro m() { return; }");
        Sheet.fine("macro m() i { return 1; }");
        Sheet.fault(NAME, "macro m() i { return ^q; }");
        // A macro with a TYPE whose BLOCK can end: at its }.
        Sheet.fault(TYPE, "macro m() i { ^}");
        Sheet.fault(TYPE, "macro m() i { if true { return 1; } ^}");
        Sheet.fault(TYPE, "macro m() i { if true { return 1; } else { } ^} macro m");
        Sheet.fault(TYPE, "macro m() i { if true { return 1; } else if true { return 1; } ^}");
        Sheet.fault(TYPE, "macro m() i { if true { } else { return 1; } ^}");
        Sheet.fault(TYPE, "macro m() i { if true { return 1; } else if true { } else { return 1; } ^}");
        Sheet.fine("macro m() i { if true { return 1; } else { return 2; } }");
        Sheet.fine("macro m() i { if true { return 1; } else if true { fail 1; } else { return 2; } }");
        Sheet.fault(TYPE, "macro m() i { while true { return 1; } ^}");
        Sheet.fault(TYPE, "macro m() i { return 1; print 1; ^}");
        Sheet.fine("macro m() i { print 1; return 1; }");
        Sheet.fine("macro m() i { fail 1; }");
        Sheet.fine("macro m() i { undo { return 1; } }");
        Sheet.fault(TYPE, "macro m() i { undo { print 1; } ^}");
        Sheet.fine("macro m() i { try { } always { return 1; } }");
        Sheet.fine("macro m() i { try { } on any { } always { fail 1; } }");
        Sheet.fine("macro m() i { try { return 1; } always { } }");
        Sheet.fine("macro m() i { try { return 1; } on own { return 1; } on any { fail 1; } }");
        Sheet.fault(TYPE, "macro m() i { try { return 1; } on own { } on any { return 1; } ^}");
        Sheet.fault(TYPE, "macro m() i { try { return 1; } on own { return 1; } on any { } ^}");
        Sheet.fault(TYPE, "macro m() i { try { } on any { return 1; } ^}");
        Sheet.fault(TYPE, "macro m() i { try { return 1; } on any { } always { } ^}");
        Sheet.fault(TYPE, "macro m() i { try { } always { print 1; } ^}");
        for (String last : new String[] {"m();", "let q = 1;", "n = 1;", "A0 = none;", "A0[0] = 1;", "I0[0] = none;", "I0[0][0] = 1;",
            "J0[0] = none;", "J0[0].num = 1;", "copy A0, 0, A0, 0, 0;", "print 1;", "while n == 1 { }", "if n == 1 { }", "undo { }",
            "try { } on any { }"}) {
            Sheet.fault(TYPE, "macro m() i { let n = 1; return 1; " + last + " ^}");
            Sheet.fine("macro m() i { let n = 1; " + last + " return 1; }");
        }
    }

    /** 2 SYNTAX: so [ behind a K, is or as behind a cell that they are not told of. */
    private static void behindCells() {
        fault(SYNTAX, "K0^[0] = 1;");
        fault(SYNTAX, "K0 = K1^[0];");
        fault(SYNTAX, "print K0^[0];");
        fault(SYNTAX, "print size K0^[0];");
        fault(SYNTAX, "print worth(K0^[0]);");
        for (char column = 'A'; column <= 'J'; column++) {
            fault(SYNTAX, "print " + column + "0 ^is A;");
            fault(SYNTAX, "print " + column + "0 ^is box;");
            fault(SYNTAX, "K0 = " + column + "0 ^as A;");
            fault(SYNTAX, "K0 = " + column + "0 ^as box;");
            fault(SYNTAX, "K0 = clone " + column + "0 ^as A;");
            if (column < 'I') {
                fault(SYNTAX, "K0 = " + column + "0^[0];");
                fault(SYNTAX, "print " + column + "0[0]^[0];");
            }
            if (column != 'I') {
                fault(SYNTAX, "print size " + column + "0^[0];");
            }
            if (column != 'J') {
                fault(SYNTAX, "print " + column + "0[0] ^is box;");
                fault(SYNTAX, "print " + column + "0[0]^.num;");
                fault(SYNTAX, column + "0[0]^.num = 1;");
            }
        }
        fine("print K0 is A; print K0 is box; K1 = K0 as A; K1 = K0 as box; print J0[0] is box; print I0[0][0]; K0 = I0[0];");
        fault(SYNTAX, "print J0[0] is ^A;");
        fault(SYNTAX, "print J0[0] is ^J;");
        fault(SYNTAX, "K0 = J0[0] ^as box;");
        fault(SYNTAX, "K0 = I0[0] ^as D;");
        fault(SYNTAX, "print K0 is ^none;");
        fault(SYNTAX, "K0 = K1 as ^none;");
        fault(SYNTAX, "K0 = K1 as ^A0;");
    }

    /** What is not open in one another has no limit but that of the tokens. */
    private static void lengthOfChains() {
        fine("print 1" + " + 1".repeat(900) + ";");
        fine("print b" + " and b".repeat(600) + ";");
        fine("print b" + " or b".repeat(600) + ";");
        fine("print 1" + " * 1".repeat(900) + ";");
        fine("if b { }" + " else if b { }".repeat(250) + " else { }");
        fine("try { }" + " on any { }".repeat(300));
        fine("print 1;".repeat(480));
        Sheet.ran("print 1;".repeat(100), "1 ".repeat(100).trim());
        Sheet.ran("print 0" + " + 1".repeat(900) + ";", "900");
        Sheet.ran("let n = 99; if n == 0 { print 0; }" + chain(100) + " else { print 100; }", "99");
        Sheet.ran("let n = 100; if n == 0 { print 0; }" + chain(100) + " else { print 100; }", "100");
    }

    private static String chain(int count) {
        StringBuilder text = new StringBuilder();
        for (int i = 1; i < count; i++) {
            text.append(" else if n == ").append(i).append(" { print ").append(i).append("; }");
        }
        return text.toString();
    }
}
