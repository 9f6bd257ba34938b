import java.util.ArrayList;
import java.util.Arrays;
import java.util.List;

/** 2 SYNTAX: at each place of a text the tokens that can stand there, and all others, which can't. */
public final class TokensThatStandTest {
    private static final int SYNTAX = 2;
    private static final String TYPES = "i l f d t";
    private static final String KINDS = "missing place count kind element zero own deep any";
    private static final String FUNCTIONS = "int long float double byte short sign bits real abs min max floor ceil rint sqrt"
        + " signum round ulp up down copysign fma scalb exponent nans";
    private static final String WORDS = "macro let if else while try on always undo fail return print copy new clone none box note"
        + " seal num mark size worth same is as and or not true false nan inf " + TYPES + " " + KINDS + " " + FUNCTIONS;
    private static final String SIGNS = "{ } ( ) [ ] , ; . = + - * / % < <= > >= == !=";
    private static final String CELLS = "A0 B1 C2 D3 E4 F5 G6 H7 I0 J0 K0";
    private static final String LANES = "A B C D E F G H I J N S";
    private static final String NUMBERS = "1 1l 1.0 1.0f 'a'";
    private static final String NAMES = "n k x y b";
    private static final String OTHER_NAMES = "fresh";

    private static final String STATEMENTS = "let if while try undo fail return print copy " + NAMES + " " + CELLS;
    private static final String OPERANDS = NUMBERS + " true false nan inf size same worth ( - " + NAMES + " " + CELLS + " " + FUNCTIONS;
    private static final String EXPRESSIONS = OPERANDS + " not";
    private static final String THINGS = "none clone new box note seal " + CELLS;
    private static final String BINARY = "+ - * / % < <= > >= == != and or";
    private static final String BOXES = "box note seal";

    private static final List<String> ALL = new ArrayList<>();

    public static void main(String[] args) {
        for (String group : new String[] {WORDS, SIGNS, CELLS, LANES, NUMBERS, NAMES, OTHER_NAMES}) {
            ALL.addAll(Arrays.asList(group.split(" ")));
        }
        macros();
        statements();
        expressions();
        behindOperands();
        things();
        lists();
        Sheet.end();
    }

    /** Behind the text just these can stand; a NAME with a ( behind it is another FAULT, so that one can. */
    private static void stand(String text, String... allowed) {
        standBut(text, "", allowed);
    }

    /** As stand(), but that of some tokens nothing is said. */
    private static void standBut(String text, String open, String... allowed) {
        List<String> can = new ArrayList<>();
        for (String group : allowed) {
            can.addAll(Arrays.asList(group.split(" ")));
        }
        List<String> left = Arrays.asList(open.split(" "));
        for (String token : ALL) {
            if (left.contains(token)) {
                continue;
            }
            LaneSheet sheet = new LaneSheet();
            int macros = Sheet.compile(sheet, text + " " + token);
            boolean refused = macros < 0 && sheet.fault(0) == SYNTAX && sheet.fault(1) == text.length() + 1;
            Sheet.due(token + " behind " + text + " (fault " + sheet.fault(0) + " at " + sheet.fault(1) + ")", refused ? 1 : 0,
                can.contains(token) ? 0 : 1);
        }
        LaneSheet sheet = new LaneSheet();
        int macros = Sheet.compile(sheet, text + " ");
        boolean ended = macros < 0 && sheet.fault(0) == SYNTAX && sheet.fault(1) == text.length() + 1;
        Sheet.due("the end behind " + text, ended ? 1 : 0, can.contains("END") ? 0 : 1);
    }

    private static final String HEAD = "macro m(n i, k l, x f, y d, b t) { ";
    private static final String TYPED = "macro g(n i, k l, x f, y d, b t) i { ";

    private static void in(String text, String... allowed) {
        stand(HEAD + text, allowed);
    }

    private static void inBut(String text, String open, String... allowed) {
        standBut(HEAD + text, open, allowed);
    }

    private static void macros() {
        stand("", "macro");
        stand("macro", NAMES, OTHER_NAMES);
        stand("macro m", "(");
        stand("macro m (", NAMES, OTHER_NAMES, ")");
        stand("macro m ( q", TYPES);
        stand("macro m ( q i", ", )");
        stand("macro m ( q i ,", NAMES, OTHER_NAMES);
        stand("macro m ( q i , r t", ", )");
        stand("macro m ( )", TYPES, "{");
        stand("macro m ( ) i", "{");
        stand("macro m ( n i , k l , x f , y d , b t ) {", STATEMENTS, OTHER_NAMES, "}");
        stand("macro m ( ) { }", "macro", "END");
        stand("macro m ( ) { } macro z ( ) { }", "macro", "END");
    }

    private static void statements() {
        in("print 1;", STATEMENTS, OTHER_NAMES, "}");
        in("let", NAMES, OTHER_NAMES);
        in("let q", "=");
        in("let q =", EXPRESSIONS, OTHER_NAMES);
        in("n", "= (");
        in("n =", EXPRESSIONS, OTHER_NAMES);
        in("m", "= ( ; , . } { ) [ ] + - * / % < <= > >= == !=", WORDS, CELLS, LANES, NUMBERS, NAMES, OTHER_NAMES, "END");
        in("m (", EXPRESSIONS, OTHER_NAMES, ")");
        in("A0", "= [");
        in("I0", "= [");
        in("J0", "= [");
        in("K0", "=");
        in("A0 [", EXPRESSIONS, OTHER_NAMES);
        in("A0 [ 0", BINARY, "]");
        in("A0 [ 0 ]", "=");
        in("H0 [ 0 ]", "=");
        in("I0 [ 0 ]", "= [");
        in("I0 [ 0 ] [", EXPRESSIONS, OTHER_NAMES);
        in("I0 [ 0 ] [ 0 ]", "=");
        in("J0 [ 0 ]", "= .");
        in("J0 [ 0 ] .", "num mark");
        in("J0 [ 0 ] . num", "=");
        in("J0 [ 0 ] . mark", "=");
        inBut("A0 [ 0 ] =", "none clone new box note seal", EXPRESSIONS, OTHER_NAMES);
        inBut("I0 [ 0 ] [ 0 ] =", "none clone new box note seal", EXPRESSIONS, OTHER_NAMES);
        inBut("J0 [ 0 ] . num =", "none clone new box note seal", EXPRESSIONS, OTHER_NAMES);
        in("copy", CELLS);
        in("copy A0", ",");
        in("copy A0 ,", EXPRESSIONS, OTHER_NAMES);
        in("copy A0 , 1", BINARY, ",");
        in("copy A0 , 1 ,", CELLS);
        in("copy A0 , 1 , K0", ",");
        in("copy A0 , 1 , K0 , 1", BINARY, ",");
        in("copy A0 , 1 , K0 , 1 , 1", BINARY, ";");
        in("if", EXPRESSIONS, OTHER_NAMES);
        in("if b", BINARY, "{ (");
        in("if b { }", STATEMENTS, OTHER_NAMES, "else }");
        in("if b { } else", "{ if");
        in("if b { } else { }", STATEMENTS, OTHER_NAMES, "}");
        in("if b { } else if b { }", STATEMENTS, OTHER_NAMES, "else }");
        in("while", EXPRESSIONS, OTHER_NAMES);
        in("while b", BINARY, "{ (");
        in("while b { }", STATEMENTS, OTHER_NAMES, "}");
        in("try", "{");
        in("try { }", "on always");
        in("try { } on", KINDS);
        in("try { } on any", "{", NAMES, OTHER_NAMES);
        in("try { } on any e", "{");
        in("try { } on any { }", STATEMENTS, OTHER_NAMES, "on always }");
        in("try { } on any { } always", "{");
        in("try { } always { }", STATEMENTS, OTHER_NAMES, "}");
        in("undo", "{");
        in("undo { }", STATEMENTS, OTHER_NAMES, "}");
        in("fail", EXPRESSIONS, OTHER_NAMES);
        in("fail 1", BINARY, ";");
        in("print", EXPRESSIONS, OTHER_NAMES);
        in("print 1", BINARY, ";");
        stand(TYPED + "return", EXPRESSIONS, OTHER_NAMES, ";");
        stand(TYPED + "return 1", BINARY, ";");
        in("return ;", STATEMENTS, OTHER_NAMES, "}");
    }

    private static void expressions() {
        for (String sign : "+ - * / % < <= > >= == !=".split(" ")) {
            in("print n " + sign, OPERANDS, OTHER_NAMES);
        }
        in("print b and", EXPRESSIONS, OTHER_NAMES);
        in("print b or", EXPRESSIONS, OTHER_NAMES);
        in("print not", EXPRESSIONS, OTHER_NAMES);
        in("print -", OPERANDS, OTHER_NAMES);
        in("print (", EXPRESSIONS, OTHER_NAMES);
        in("print ( n", BINARY, ") (");
        in("print n < 1", "and or ; + - * / %");
        in("print n == 1", "and or ; + - * / %");
        in("print n + 1", BINARY, ";");
        in("print n * 1", BINARY, ";");
        in("print - 1", BINARY, ";");
        in("print not b", BINARY, "; (");
        in("print b and b", BINARY, "; (");
        in("print b or b", BINARY, "; (");
        in("print not n < 1", "and or ; + - * / %");
    }

    private static void behindOperands() {
        for (String operand : new String[] {"1", "1l", "1.5", "1.5f", "'a'", "true", "false", "nan", "inf", "( n )", "abs ( 1 )", "A0 [ 1 ]",
            "H0 [ 1 ]", "I0 [ 1 ] [ 2 ]", "J0 [ 1 ] . num", "J0 [ 1 ] . mark", "size A0", "size K0", "size J0", "size I0 [ 1 ]",
            "same ( A0 , A0 )", "worth ( none )"}) {
            in("print " + operand, BINARY, ";");
        }
        in("print n", BINARY, "; (");
        in("print size I0", BINARY, "; [");
        in("print size", CELLS);
        for (char column = 'A'; column <= 'I'; column++) {
            in("print " + column + "0", "[");
        }
        in("print J0", "[");
        in("print K0", "is");
        in("print I0 [ 1 ]", "[");
        in("print J0 [ 1 ]", ". is");
        in("print 1 + J0 [ 1 ]", ".");
        in("print J0 [ 1 ] .", "num mark");
        in("print K0 is", LANES, BOXES);
        in("print J0 [ 1 ] is", BOXES);
        in("print K0 is A", "and or ;");
        in("print K0 is box", "and or ;");
        in("print J0 [ 1 ] is note", "and or ;");
        in("print not K0 is A", "and or ;");
        in("print ( K0 is A )", BINARY, ";");
        for (String function : FUNCTIONS.split(" ")) {
            in("print " + function, "(");
            in("print " + function + " (", EXPRESSIONS, OTHER_NAMES);
            in("print " + function + " ( 1", BINARY, ", )");
        }
        in("print same", "(");
        in("print same (", THINGS);
        in("print same ( A0", ",");
        in("print same ( A0 ,", THINGS);
        in("print same ( A0 , A0", ")");
        in("print worth", "(");
        in("print worth (", THINGS);
        in("print worth ( none", ")");
    }

    private static void things() {
        in("K0 =", THINGS);
        in("A0 =", THINGS);
        inBut("I0 [ 0 ] =", EXPRESSIONS + " " + OTHER_NAMES, THINGS);
        inBut("J0 [ 0 ] =", EXPRESSIONS + " " + OTHER_NAMES, THINGS);
        in("K0 = none", ";");
        in("K0 = A0", ";");
        in("K0 = I0", "; [");
        in("K0 = J0", "; [");
        in("K0 = K1", "; as");
        in("K0 = I0 [ 0 ]", ";");
        in("K0 = J0 [ 0 ]", ";");
        in("K0 = K1 as", LANES, BOXES);
        in("K0 = K1 as A", ";");
        in("K0 = K1 as box", ";");
        in("K0 = clone", CELLS);
        in("K0 = clone A0", ";");
        in("K0 = clone I0", ";");
        in("K0 = clone K1", ";");
        in("K0 = new", LANES);
        in("K0 = new A", EXPRESSIONS, OTHER_NAMES);
        in("K0 = new A 1", BINARY, ";");
        in("K0 = new I 1", BINARY, "; ,");
        in("K0 = new I 1 ,", EXPRESSIONS, OTHER_NAMES);
        in("K0 = new I 1 , 1", BINARY, ";");
        in("K0 = box", EXPRESSIONS, OTHER_NAMES);
        in("K0 = box 1", BINARY, ";");
        in("K0 = note", EXPRESSIONS, OTHER_NAMES);
        in("K0 = note 1", BINARY, ",");
        in("K0 = note 1 ,", EXPRESSIONS, OTHER_NAMES);
        in("K0 = note 1 , 1", BINARY, ";");
        in("K0 = seal 1", BINARY, ",");
        in("K0 = seal 1 , 1", BINARY, ";");
    }

    private static void lists() {
        stand(TYPED + "g ( 1", BINARY, ", )");
        stand(TYPED + "g ( 1 ,", EXPRESSIONS, OTHER_NAMES);
        stand(TYPED + "g ( 1 , 1l , 1.0f , 1.0 , true", BINARY, ", )");
        stand(TYPED + "g ( 1 , 1l , 1.0f , 1.0 , true )", ";");
        stand(TYPED + "print g ( 1 , 1l , 1.0f , 1.0 , true )", BINARY, ";");
        stand(TYPED + "print g (", EXPRESSIONS, OTHER_NAMES, ")");
    }
}
