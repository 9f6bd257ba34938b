import java.util.ArrayList;
import java.util.Arrays;
import java.util.HashMap;
import java.util.HashSet;
import java.util.List;
import java.util.Map;
import java.util.Random;
import java.util.Set;

/**
 * 2 SYNTAX against the document's grammar itself: it stands below as rules, and a reader that follows all of them at once
 * (Earley's) tells the first token with which no text goes on. It knows nothing of how the class reads.
 */
public final class GrammarTest {
    private static final int SYNTAX = 2;
    private static final int TEXTS = 12000;
    private static final String WORDS = " macro let if else while try on always undo fail return print copy new clone none box note"
        + " seal num mark size worth same is as and or not true false nan inf i l f d t missing place count kind element zero own"
        + " deep any ";
    private static final String FUNCTIONS = " int long float double byte short sign bits real abs min max floor ceil rint sqrt"
        + " signum round ulp up down copysign fma scalb exponent nans ";

    // Cells are of A to H, of I, J or K, as the document tells of these apart. Of a K an ELEMENT may begin, but [ can't stand
    // behind it ("so [ behind a K"): NEVER is no token.
    private static final String[] RULES = {
        "PROGRAM: MACRO | PROGRAM MACRO",
        "MACRO: macro name ( PARAMETERS ) RESULT BLOCK",
        "PARAMETERS: | PARAMETER | PARAMETER MORE",
        "MORE: , PARAMETER | MORE , PARAMETER",
        "PARAMETER: name TYPE",
        "RESULT: | TYPE",
        "TYPE: i | l | f | d | t",
        "BLOCK: { STATEMENTS }",
        "STATEMENTS: | STATEMENTS STATEMENT",
        "STATEMENT: let name = E ; | name = E ; | name ( ES ) ; | CELL = THING ; | ELEMENT = E ; | cellI [ E ] = THING ;"
            + " | cellJ [ E ] = THING ; | copy CELL , E , CELL , E , E ; | IF | while E BLOCK | try BLOCK ON ONS"
            + " | try BLOCK ONS always BLOCK | undo BLOCK | fail E ; | return ; | return E ; | print E ;",
        "IF: if E BLOCK | if E BLOCK else BLOCK | if E BLOCK else IF",
        "ONS: | ONS ON",
        "ON: on KIND BLOCK | on KIND name BLOCK",
        "KIND: missing | place | count | kind | element | zero | own | deep | any",
        "ES: | LIST",
        "LIST: E | LIST , E",
        "CELL: cellA | cellI | cellJ | cellK",
        "ELEMENT: cellA [ E ] | cellI [ E ] [ E ] | cellJ [ E ] . num | cellJ [ E ] . mark",
        "LANE: lane | laneI",
        "BOX: box | note | seal",
        "THING: WHOLE | new laneI E",
        "WHOLE: none | CELL | cellK as LANE | cellK as BOX | clone CELL | new lane E | new laneI E , E | cellI [ E ]"
            + " | cellJ [ E ] | box E | note E , E | seal E , E",
        "E: CONJUNCTION | E or CONJUNCTION",
        "CONJUNCTION: NEGATION | CONJUNCTION and NEGATION",
        "NEGATION: COMPARISON | not NEGATION",
        "COMPARISON: SUM | SUM SIGN SUM | cellK is LANE | cellK is BOX | cellJ [ E ] is BOX",
        "SIGN: < | <= | > | >= | == | !=",
        "SUM: PRODUCT | SUM + PRODUCT | SUM - PRODUCT",
        "PRODUCT: SIGNED | PRODUCT * SIGNED | PRODUCT / SIGNED | PRODUCT % SIGNED",
        "SIGNED: OPERAND | - SIGNED",
        "OPERAND: number | true | false | nan | inf | name | name ( ES ) | ELEMENT | cellK NEVER | size CELL | size cellI [ E ]"
            + " | same ( WHOLE , THING ) | worth ( THING ) | function ( LIST ) | ( E )",
    };

    private static final String[] TEXTS_THAT_STAND = {
        "macro a ( n i , m l , x f , y d , b t ) i { let z = n + 1 ; z = n * 2 - 3 % n ; A0 = new A n ; A0 [ z ] = n ; if b and n < 3"
            + " or not ( m >= 4l ) { print A0 [ 0 ] ; } else if K0 is A { return size A0 ; } else { fail 3 ; } while n > 0 { n = n - 1 ; }"
            + " return n ; }",
        "macro b ( ) { K0 = none ; K1 = clone A0 ; A1 = K1 as A ; J0 = new J 3 ; J0 [ 0 ] = box 5 ; J0 [ 1 ] = note 5l , 6 ; J0 [ 2 ] ="
            + " seal 1 , 2 ; J0 [ 0 ] . num = 9l ; J0 [ 1 ] . mark = J0 [ 2 ] . mark ; print worth ( J0 [ 1 ] ) ; print J0 [ 0 ] is"
            + " note ; print same ( J0 , K0 ) ; print same ( J0 [ 1 ] , K0 as seal ) ; K2 = J0 [ 1 ] ; J0 [ 0 ] = K2 as note ; return ; }",
        "macro c ( ) d { I0 = new I 2 , 3 ; I1 = new I 2 ; I0 [ 0 ] = D0 ; I0 [ 1 ] = new D 4 ; I0 [ 1 ] [ 2 ] = 7 ; print I0 [ 1 ] [ 2 ] ;"
            + " print size I0 [ 1 ] ; D1 = I0 [ 1 ] ; copy D1 , 0 , D0 , 1 , 2 ; try { print 1 / 0 ; } on zero e { print e ; } on any"
            + " { c ( ) ; } always { print true ; } undo { H0 [ 0 ] = true ; fail - 4 ; } return fma ( 1.5 , 2.5f , - 3 ) + c ( ) ; }"
            + " macro e ( x i ) t { return same ( new I 2 , 2 , none ) and worth ( none ) == 0l ; }",
        "macro g ( a i , b i ) i { if a == b { return min ( a , b ) ; } else { return g ( b , a ) ; } } macro h ( ) { print abs ( - 5 ) ;"
            + " print max ( 1 , 2l ) ; print nan != inf ; print 'x' ; let q = g ( 1 , g ( 2 , 3 ) ) ; q = ( q + 1 ) * - - 3 ; g ( q , q ) ;"
            + " try { h ( ) ; } always { F0 [ 0 ] = 1.5f ; } K0 = new N 2 ; print not K0 is box ; J1 = K0 as N ; print size K0 ;"
            + " print scalb ( 1.5 , 2 ) >= floor ( 2.5 ) ; }",
    };
    private static final String[] TOKENS = ("macro let if else while try on always undo fail return print copy new clone none box note seal"
        + " num mark size worth same is as and or not true false nan inf i l f d t missing any abs min fma n z g q A0 D0 H0 I0 J0 K0 A I J"
        + " N S 1 2l 1.5 1.5f 'x' { } ( ) [ ] , ; . = + - * / % < <= > >= == !=").split(" ");

    private final Map<String, Integer> rulesOf = new HashMap<>();
    private final List<List<String[]>> rules = new ArrayList<>();

    public static void main(String[] args) {
        GrammarTest grammar = new GrammarTest();
        for (String text : TEXTS_THAT_STAND) {
            grammar.check(text.split(" "));
            Sheet.fine(text);
        }
        Random random = new Random(2026);
        for (int n = 0; n < TEXTS; n++) {
            String text = TEXTS_THAT_STAND[random.nextInt(TEXTS_THAT_STAND.length)];
            grammar.check(changed(text.split(" "), random));
        }
        Sheet.end();
    }

    private GrammarTest() {
        for (String line : RULES) {
            int colon = line.indexOf(':');
            rulesOf.put(line.substring(0, colon), rules.size());
            List<String[]> ways = new ArrayList<>();
            for (String way : line.substring(colon + 1).split("\\|")) {
                ways.add(way.trim().isEmpty() ? new String[0] : way.trim().split(" "));
            }
            rules.add(ways);
        }
    }

    private static String[] changed(String[] whole, Random random) {
        List<String> tokens = new ArrayList<>(Arrays.asList(whole));
        int changes = random.nextInt(4) == 0 ? 2 : 1;
        for (int i = 0; i < changes; i++) {
            int place = random.nextInt(tokens.size());
            String other = TOKENS[random.nextInt(TOKENS.length)];
            switch (random.nextInt(5)) {
                case 0: tokens.remove(place); break;
                case 1: tokens.add(place, other); break;
                case 2: tokens.set(place, other); break;
                case 3: tokens.set(place, tokens.get(random.nextInt(tokens.size()))); break;
                default: tokens.set(place, otherColumn(tokens.get(place), random)); break;
            }
        }
        return tokens.toArray(new String[0]);
    }

    private static String otherColumn(String token, Random random) {
        boolean capital = token.charAt(0) >= 'A' && token.charAt(0) <= 'Z';
        if (!capital) {
            return token;
        }
        return token.length() == 2 ? "AIJK".charAt(random.nextInt(4)) + "0" : String.valueOf("AIJNS".charAt(random.nextInt(5)));
    }

    /** A token that can't stand is refused at its place; another FAULT is met ahead of it or not at all. */
    private void check(String[] tokens) {
        String text = String.join(" ", tokens);
        LaneSheet sheet = new LaneSheet();
        int macros = Sheet.compile(sheet, text);
        int kind = sheet.fault(0);
        int place = sheet.fault(1);
        int bad = firstThatCantStand(tokens);
        String what = "fault " + kind + " at " + place + " of " + text;
        if (bad > tokens.length) {
            Sheet.due(what, kind == SYNTAX ? 1 : 0, 0);
        } else {
            int due = Math.min(text.length(), placeOf(tokens, bad));
            Sheet.due(what, macros, LaneSheet.NONE);
            Sheet.due(what + ", due at " + due, kind == SYNTAX ? place : Math.min(place, due), kind == SYNTAX ? due : place);
        }
    }

    private static int placeOf(String[] tokens, int index) {
        int place = 0;
        for (int i = 0; i < index; i++) {
            place += tokens[i].length() + 1;
        }
        return place;
    }

    private static String groupOf(String token) {
        char first = token.charAt(0);
        if (first >= 'a' && first <= 'z') {
            return FUNCTIONS.contains(" " + token + " ") ? "function" : WORDS.contains(" " + token + " ") ? token : "name";
        }
        if (first >= 'A' && first <= 'Z') {
            boolean apart = token.length() == 1 ? first == 'I' : first >= 'I';
            return (token.length() == 1 ? "lane" : "cell") + (apart ? first : token.length() == 1 ? "" : "A");
        }
        return first == '\'' || (first >= '0' && first <= '9') ? "number" : token;
    }

    /** A rule's way that was followed so far, and where it began. */
    private record Item(int rule, int way, int done, int from) {
    }

    /** How many tokens can stand; one more than there are if the text may end there, too. */
    private int firstThatCantStand(String[] tokens) {
        List<Set<Item>> all = new ArrayList<>();
        Set<Item> here = new HashSet<>();
        begin(0, 0, here, new ArrayList<>());
        for (int k = 0; k <= tokens.length; k++) {
            List<Item> open = new ArrayList<>(here);
            all.add(here);
            for (int i = 0; i < open.size(); i++) {
                follow(open.get(i), k, all, open);
            }
            Set<Item> next = k < tokens.length ? behind(open, groupOf(tokens[k])) : new HashSet<>();
            if (k < tokens.length && next.isEmpty()) {
                return k;
            }
            if (k == tokens.length) {
                return open.stream().anyMatch(item -> item.rule == 0 && item.from == 0 && symbol(item) == null) ? k + 1 : k;
            }
            here = next;
        }
        return tokens.length;
    }

    private String symbol(Item item) {
        String[] way = rules.get(item.rule).get(item.way);
        return item.done < way.length ? way[item.done] : null;
    }

    private void begin(int rule, int k, Set<Item> here, List<Item> open) {
        for (int way = 0; way < rules.get(rule).size(); way++) {
            add(new Item(rule, way, 0, k), here, open);
        }
    }

    private static void add(Item item, Set<Item> here, List<Item> open) {
        if (here.add(item)) {
            open.add(item);
        }
    }

    private static Item further(Item item) {
        return new Item(item.rule, item.way, item.done + 1, item.from);
    }

    private void follow(Item item, int k, List<Set<Item>> all, List<Item> open) {
        Set<Item> here = all.get(k);
        String symbol = symbol(item);
        if (symbol == null) {
            for (Item outer : new ArrayList<>(all.get(item.from))) {
                String awaited = symbol(outer);
                if (awaited != null && rulesOf.getOrDefault(awaited, -1) == item.rule) {
                    add(further(outer), here, open);
                }
            }
        } else if (rulesOf.containsKey(symbol)) {
            int rule = rulesOf.get(symbol);
            begin(rule, k, here, open);
            if (rules.get(rule).stream().anyMatch(way -> way.length == 0)) {
                add(further(item), here, open);
            }
        }
    }

    private Set<Item> behind(List<Item> open, String group) {
        Set<Item> next = new HashSet<>();
        for (Item item : open) {
            if (group.equals(symbol(item))) {
                next.add(further(item));
            }
        }
        return next;
    }
}
