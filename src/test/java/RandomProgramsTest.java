import java.util.ArrayList;
import java.util.HashMap;
import java.util.IdentityHashMap;
import java.util.List;
import java.util.Map;
import java.util.Random;
import java.util.function.LongSupplier;

/**
 * Random programs, made together with a plain tree of what they must do: that one goes down in Java's own calls, throws
 * Java's own exceptions, and undoes by copies of all that the cells name, so that it shares nothing with the class.
 */
public final class RandomProgramsTest {
    private interface Expression {
        int value(Frame frame);
    }

    private interface Reference {
        Object value(Frame frame);
    }

    private interface Statement {
        void work(Frame frame);
    }

    private static final class Row {
        final char lane;
        final Object[] elements;

        Row(char lane, int size) {
            this.lane = lane;
            elements = new Object[size];
            if (lane == 'D' || lane == 'A') {
                java.util.Arrays.fill(elements, 0);
            }
        }
    }

    private static final class Box {
        int kind;
        long num;
        int mark;
    }

    private static final class Frame {
        final Map<String, Integer> names = new HashMap<>();
        int result;
    }

    private static final class Macro {
        String name;
        List<String> parameters = new ArrayList<>();
        List<Statement> block;
        int number;
    }

    @SuppressWarnings("serial")
    private static final class Fault extends RuntimeException {
        final int kind;
        final int place;
        final int number;

        Fault(int kind, int place, int number) {
            super(null, null, false, false);
            this.kind = kind;
            this.place = place;
            this.number = number;
        }
    }

    @SuppressWarnings("serial")
    private static final class Return extends RuntimeException {
        Return() {
            super(null, null, false, false);
        }
    }

    @SuppressWarnings("serial")
    private static final class Stop extends RuntimeException {
        final int answer;

        Stop(int answer) {
            super(null, null, false, false);
            this.answer = answer;
        }
    }

    private static final String[] KINDS = {"missing", "place", "count", "kind", "element", "zero", "own", "deep", "any"};
    private static final String[] CELL_NAMES = {"A0", "A1", "D0", "D1", "I0", "I1", "J0", "J1", "K0", "K1", "K2"};

    private final Random random;
    private final StringBuilder text = new StringBuilder();
    private final List<Macro> macros = new ArrayList<>();
    private final List<String> names = new ArrayList<>();
    private int fresh;
    private int blocks;
    private int opens;

    // What the tree works on.
    private final Map<String, Object> cells = new HashMap<>();
    private final List<Integer> trace = new ArrayList<>();
    private final List<Integer> printed = new ArrayList<>();
    private int steps;
    private int stepsMost;
    private int made;
    private int faults;
    private int depth;
    private int undos;
    private int kept;

    private RandomProgramsTest(long seed) {
        random = new Random(seed);
    }

    public static void main(String[] args) {
        int programs = args.length > 0 ? Integer.parseInt(args[0]) : 6000;
        int[] answers = new int[4];
        for (int seed = 0; seed < programs; seed++) {
            new RandomProgramsTest(seed).check(answers);
        }
        System.out.println("ended " + answers[0] + ", faulted " + answers[1] + ", cut " + answers[2] + ", full " + answers[3]);
        Sheet.due("all answers came up", Math.min(Math.min(answers[0], answers[1]), answers[2]) > programs / 50 ? 1 : 0, 1);
        Sheet.end();
    }

    private void check(int[] answers) {
        makeSetup();
        int count = 2 + random.nextInt(3);
        for (int i = 1; i < count; i++) {
            makeMacro(i);
        }
        LaneSheet first = new LaneSheet();
        if (text.length() > 4000 || (Sheet.compile(first, text.toString()) < 0 && first.fault(0) == 6)) {
            return;
        }
        int stepsInAll = 0;
        List<int[]> runs = new ArrayList<>();
        for (int run = 0; run < 5; run++) {
            Macro macro = macros.get(run == 0 ? 0 : 1 + random.nextInt(count - 1));
            int a = random.nextInt(5) - 1;
            int b = random.nextInt(5) - 1;
            stepsMost = run > 0 && random.nextInt(4) == 0 ? 1 + random.nextInt(40) : 700;
            int answer = work(macro, a, b);
            stepsInAll += steps;
            answers[answer]++;
            runs.add(new int[] {macro.number, stepsMost, a, b, answer});
            String what = "run " + run + " of macro " + macro.number + " with " + a + " " + b + " " + stepsMost + ": " + text;
            LaneSheet sheet = replayed(runs, count, what);
            ask("STEPS in all, " + what, () -> sheet.about(8), stepsInAll);
            compare(sheet, what);
        }
    }

    private int calls;

    /** One call of the object; those beyond the 512th are left out, as what they answer is free. */
    private void ask(String what, LongSupplier call, long want) {
        calls++;
        if (calls <= Sheet.CALLS_MOST) {
            Sheet.due(what, call.getAsLong(), want);
        }
    }

    /** A new object behind all these runs, so that there are calls left to ask for all. */
    private LaneSheet replayed(List<int[]> runs, int count, String what) {
        LaneSheet sheet = new LaneSheet();
        calls = (text.length() + 19) / 20;
        int size = Sheet.feed(sheet, text.toString());
        ask("compile of " + text, () -> sheet.compile(size), count);
        for (int[] run : runs) {
            ask(what, () -> sheet.run(run[0], run[1], run[2], run[3], 0), run[4]);
        }
        return sheet;
    }

    private int faultKind;
    private int faultPlace;
    private int faultNumber;
    private long result;

    private int work(Macro macro, int a, int b) {
        trace.clear();
        printed.clear();
        steps = 0;
        made = 0;
        depth = 0;
        undos = 0;
        faultKind = 0;
        faultPlace = 0;
        faultNumber = 0;
        result = 0;
        try {
            result = call(macro, new int[] {a, b});
            return 0;
        } catch (Fault fault) {
            faultKind = fault.kind;
            faultPlace = fault.place;
            faultNumber = fault.number;
            return 1;
        } catch (Stop stop) {
            return stop.answer;
        }
    }

    private void compare(LaneSheet sheet, String what) {
        ask("result, " + what, () -> sheet.result(), result);
        ask("kind, " + what, () -> sheet.about(1), faultKind);
        ask("place, " + what, () -> sheet.about(2), faultPlace);
        ask("number, " + what, () -> sheet.about(3), faultNumber);
        ask("STEPS, " + what, () -> sheet.about(4), steps);
        ask("MADE, " + what, () -> sheet.about(5), made);
        ask("TRACE, " + what, () -> sheet.about(6), trace.size());
        for (int i = 0; i < trace.size(); i++) {
            int at = i;
            ask("trace, " + what, () -> Sheet.trace(sheet, at), trace.get(i));
        }
        ask("printed, " + what, () -> sheet.about(7), printed.size());
        for (int i = 0; i < Math.min(200, printed.size()); i++) {
            int at = i;
            ask("out, " + what, () -> Sheet.out(sheet, at, 1), printed.get(i));
        }
        ask("FAULTS in all, " + what, () -> sheet.about(10), faults);
        Map<Object, Integer> first = new IdentityHashMap<>();
        for (String name : CELL_NAMES) {
            int c = 8 * (name.charAt(0) - 'A') + name.charAt(1) - '0';
            Object thing = cells.get(name);
            ask("cell " + name + ", " + what, () -> sheet.cell(c, 0), kindOf(thing));
            if (thing != null) {
                first.putIfAbsent(thing, c);
                ask("same as " + name + ", " + what, () -> sheet.cell(c, 2), first.get(thing));
            }
            if (thing instanceof Row) {
                compareRow(sheet, (Row) thing, c, what);
            } else if (thing instanceof Box) {
                ask("NUM of " + name + ", " + what, () -> Sheet.element(sheet, c, 0), ((Box) thing).num);
            }
        }
    }

    private void compareRow(LaneSheet sheet, Row row, int c, String what) {
        ask("size of " + c + ", " + what, () -> sheet.cell(c, 1), row.elements.length);
        for (int i = 0; i < row.elements.length; i++) {
            int at = i;
            Object element = row.elements[i];
            String where = "element " + c + " " + i + ", " + what;
            if (element instanceof Integer) {
                ask(where, () -> Sheet.element(sheet, c, at), (Integer) element);
            } else if (row.lane == 'I') {
                ask(where, () -> Sheet.element(sheet, c, at), element == null ? -1 : ((Row) element).elements.length);
                for (int j = 0; element != null && j < ((Row) element).elements.length; j++) {
                    int inner = j;
                    ask(where, () -> Sheet.within(sheet, c, at, inner), (Integer) ((Row) element).elements[j]);
                }
            } else {
                ask(where, () -> Sheet.element(sheet, c, at), element == null ? 0 : kindOf(element) - 12);
                if (element != null) {
                    ask(where, () -> Sheet.within(sheet, c, at, 0), ((Box) element).num);
                }
            }
        }
    }

    private static int kindOf(Object thing) {
        if (thing == null) {
            return 0;
        }
        if (thing instanceof Box) {
            return 13 + ((Box) thing).kind;
        }
        return "ABCDEFGHIJNS".indexOf(((Row) thing).lane) + 1;
    }

    private static boolean is(Object thing, int wanted) {
        int kind = kindOf(thing);
        switch (wanted) {
            case 10: return kind >= 10 && kind <= 12;
            case 11: return kind == 11 || kind == 12;
            case 13: return kind >= 13;
            case 14: return kind >= 14;
            default: return kind == wanted;
        }
    }

    // The tree's own acts.

    private Fault fault(int kind, int place, int number) {
        faults++;
        trace.clear();
        return new Fault(kind, place, number);
    }

    private void step() {
        if (steps == stepsMost) {
            throw new Stop(2);
        }
        steps++;
    }

    private void make(int count) {
        if (made + count > 1000) {
            throw new Stop(3);
        }
        made += count;
    }

    private void keep(int count) {
        if (undos > 0) {
            if (kept + count > 4000) {
                throw new Stop(3);
            }
            kept += count;
        }
    }

    private int call(Macro macro, int[] given) {
        depth++;
        Frame frame = new Frame();
        for (int i = 0; i < given.length; i++) {
            frame.names.put(macro.parameters.get(i), given[i]);
        }
        try {
            doAll(macro.block, frame);
        } catch (Return back) {
            return frame.result;
        } catch (Fault fault) {
            trace.add(macro.number);
            throw fault;
        } finally {
            depth--;
        }
        return 0;
    }

    private void doAll(List<Statement> block, Frame frame) {
        for (Statement statement : block) {
            statement.work(frame);
        }
    }

    private Map<Object, Object[]> remembered(Map<String, Object> named) {
        Map<Object, Object[]> all = new IdentityHashMap<>();
        List<Object> open = new ArrayList<>(named.values());
        while (!open.isEmpty()) {
            Object thing = open.remove(open.size() - 1);
            if (thing instanceof Row && !all.containsKey(thing)) {
                all.put(thing, ((Row) thing).elements.clone());
                open.addAll(java.util.Arrays.asList(((Row) thing).elements));
            } else if (thing instanceof Box) {
                all.put(thing, new Object[] {((Box) thing).num, ((Box) thing).mark});
            }
        }
        return all;
    }

    private void putBack(Map<String, Object> named, Map<Object, Object[]> all) {
        cells.clear();
        cells.putAll(named);
        for (Map.Entry<Object, Object[]> entry : all.entrySet()) {
            Object[] had = entry.getValue();
            if (entry.getKey() instanceof Row) {
                System.arraycopy(had, 0, ((Row) entry.getKey()).elements, 0, had.length);
            } else {
                ((Box) entry.getKey()).num = (Long) had[0];
                ((Box) entry.getKey()).mark = (Integer) had[1];
            }
        }
    }

    // Making a program.

    private int put(String token) {
        text.append(' ');
        int place = text.length();
        text.append(token);
        return place;
    }

    private boolean chance(int percent) {
        return random.nextInt(100) < percent;
    }

    /** A macro that fills most cells, so that not all that follows is a FAULT. */
    private void makeSetup() {
        Macro macro = new Macro();
        macro.name = "m0";
        macro.parameters.add("p0");
        macro.parameters.add("p1");
        macro.block = new ArrayList<>();
        macros.add(macro);
        text.append("macro m0 ( p0 i , p1 i ) i {");
        for (String cell : CELL_NAMES) {
            char lane = cell.charAt(0) == 'K' ? "DN".charAt(cell.charAt(1) % 2) : cell.charAt(0);
            if (chance(85) && !cell.equals("K2")) {
                put(cell + " = new " + lane + (lane == 'I' ? " 4 , 4 ;" : " 4 ;"));
                macro.block.add(stepped(frame -> {
                    Row row = new Row(lane, 4);
                    make(lane == 'I' ? 5 : 1);
                    for (int i = 0; i < 4 && lane == 'I'; i++) {
                        row.elements[i] = new Row('D', 4);
                    }
                    cells.put(cell, row);
                }));
            }
        }
        put("K2 = note 5 , 6 ;");
        macro.block.add(stepped(frame -> {
            make(1);
            Box box = new Box();
            box.kind = 1;
            box.num = 5;
            box.mark = 6;
            cells.put("K2", box);
        }));
        put("return 0 ; }");
        macro.block.add(stepped(frame -> {
            throw new Return();
        }));
    }

    private void makeMacro(int number) {
        Macro macro = new Macro();
        macro.number = number;
        macro.name = "m" + number;
        macros.add(macro);
        names.clear();
        put("macro");
        put(macro.name);
        put("(");
        for (int i = 0; i < 2; i++) {
            String name = "p" + i;
            macro.parameters.add(name);
            names.add(name);
            put(i == 0 ? name + " i ," : name + " i");
        }
        put(") i");
        blocks = 0;
        macro.block = makeBlock(2 + random.nextInt(4), true);
    }

    private List<Statement> makeBlock(int count, boolean whole) {
        blocks++;
        int before = names.size();
        put("{");
        List<Statement> block = new ArrayList<>();
        for (int i = 0; i < count; i++) {
            block.add(makeStatement());
        }
        if (whole) {
            block.add(makeReturn());
        }
        put("}");
        while (names.size() > before) {
            names.remove(names.size() - 1);
        }
        blocks--;
        return block;
    }

    private List<Statement> makeBlock() {
        return makeBlock(random.nextInt(4), false);
    }

    private Statement stepped(Statement statement) {
        return frame -> {
            step();
            statement.work(frame);
        };
    }

    private Statement makeStatement() {
        if (blocks == 1 && chance(60)) {
            return makeGuarded();
        }
        boolean mayNest = blocks < 6 && text.length() < 2600;
        int choice = random.nextInt(mayNest ? 28 : 14);
        switch (choice) {
            case 0: return makeLet();
            case 1: return makeAssignment();
            case 2:
            case 3: return makeStore();
            case 4:
            case 5: return makeThingStore();
            case 6:
            case 7:
            case 8: return makeNaming();
            case 9: return makeCopy();
            case 10: return chance(30) ? makeFail() : makeAssignment();
            case 11: return chance(30) ? makeReturn() : makePrint();
            case 12: return makePrint();
            case 13: return makeCallStatement();
            case 14:
            case 15: return makeIf();
            case 16: return makeWhile();
            case 17:
            case 18:
            case 19:
            case 20:
            case 21: return makeTry();
            case 22:
            case 23:
            case 24: return makeUndo();
            default: return makeGuarded();
        }
    }

    private Statement makeLet() {
        if (names.size() >= 11) {
            return makePrint();
        }
        String name = "v" + fresh++;
        put("let");
        put(name);
        put("=");
        Expression e = makeExpression();
        put(";");
        names.add(name);
        return stepped(frame -> frame.names.put(name, e.value(frame)));
    }

    private Statement makeAssignment() {
        String name = names.get(random.nextInt(names.size()));
        put(name);
        put("=");
        Expression e = makeExpression();
        put(";");
        return stepped(frame -> frame.names.put(name, e.value(frame)));
    }

    private Statement makePrint() {
        put("print");
        Expression e = makeExpression();
        put(";");
        return stepped(frame -> printed.add(e.value(frame)));
    }

    private Statement makeFail() {
        int place = put("fail");
        Expression e = makeExpression();
        put(";");
        return stepped(frame -> {
            int number = e.value(frame);
            throw fault(7, place, number);
        });
    }

    private Statement makeReturn() {
        put("return");
        Expression e = makeExpression();
        put(";");
        return stepped(frame -> {
            frame.result = e.value(frame);
            throw new Return();
        });
    }

    private Statement makeCallStatement() {
        Expression e = makeCall();
        put(";");
        return stepped(frame -> e.value(frame));
    }

    private Statement makeIf() {
        put("if");
        Expression e = makeCondition();
        List<Statement> yes = makeBlock();
        int kind = random.nextInt(3);
        if (kind == 0) {
            return stepped(frame -> {
                if (e.value(frame) != 0) {
                    doAll(yes, frame);
                }
            });
        }
        put("else");
        Expression second;
        List<Statement> middle;
        if (kind == 2) {
            put("if");
            second = makeCondition();
            middle = makeBlock();
            put("else");
        } else {
            second = frame -> 0;
            middle = new ArrayList<>();
        }
        List<Statement> no = makeBlock();
        return stepped(frame -> {
            if (e.value(frame) != 0) {
                doAll(yes, frame);
            } else if (second.value(frame) != 0) {
                doAll(middle, frame);
            } else {
                doAll(no, frame);
            }
        });
    }

    private Statement makeWhile() {
        put("while");
        Expression e = makeCondition();
        List<Statement> block = makeBlock();
        return stepped(frame -> {
            while (true) {
                step();
                if (e.value(frame) == 0) {
                    return;
                }
                doAll(block, frame);
            }
        });
    }

    private Statement makeUndo() {
        put("undo");
        List<Statement> block = makeBlock();
        return stepped(frame -> {
            Map<String, Object> named = new HashMap<>(cells);
            Map<Object, Object[]> all = remembered(named);
            if (undos == 0) {
                kept = 0;
            }
            undos++;
            try {
                doAll(block, frame);
            } catch (Fault fault) {
                putBack(named, all);
                throw fault;
            } finally {
                undos--;
            }
        });
    }

    /** A try that takes all, so that runs come further. */
    private Statement makeGuarded() {
        put("try");
        List<Statement> block = makeBlock(2 + random.nextInt(4), false);
        put("on any { }");
        return stepped(frame -> {
            try {
                doAll(block, frame);
            } catch (Fault fault) {
                return;
            }
        });
    }

    private Statement makeTry() {
        put("try");
        List<Statement> block = makeBlock();
        int ons = random.nextInt(3);
        boolean withAlways = ons == 0 || chance(50);
        int[] kinds = new int[ons];
        String[] onNames = new String[ons];
        List<List<Statement>> onBlocks = new ArrayList<>();
        for (int i = 0; i < ons; i++) {
            kinds[i] = chance(40) ? 9 : 1 + random.nextInt(8);
            put("on");
            put(KINDS[kinds[i] - 1]);
            if (chance(60) && names.size() < 11) {
                onNames[i] = "e" + fresh++;
                put(onNames[i]);
                names.add(onNames[i]);
            }
            onBlocks.add(makeBlock());
            if (onNames[i] != null) {
                names.remove(names.size() - 1);
            }
        }
        List<Statement> always = new ArrayList<>();
        if (withAlways) {
            put("always");
            always.addAll(makeBlock());
        }
        return stepped(frame -> {
            RuntimeException came = null;
            int result = 0;
            try {
                tryOns(frame, block, kinds, onNames, onBlocks);
            } catch (Fault | Return other) {
                came = other;
                result = frame.result;
            }
            doAll(always, frame);
            if (came != null) {
                frame.result = result;
                throw came;
            }
        });
    }

    private void tryOns(Frame frame, List<Statement> block, int[] kinds, String[] onNames, List<List<Statement>> onBlocks) {
        try {
            doAll(block, frame);
        } catch (Fault fault) {
            for (int i = 0; i < kinds.length; i++) {
                if (kinds[i] == 9 || kinds[i] == fault.kind) {
                    if (onNames[i] != null) {
                        frame.names.put(onNames[i], fault.kind == 7 ? fault.number : fault.kind);
                    }
                    doAll(onBlocks.get(i), frame);
                    return;
                }
            }
            throw fault;
        }
    }

    private String anyCell(String columns) {
        String name;
        do {
            name = CELL_NAMES[random.nextInt(CELL_NAMES.length)];
        } while (columns.indexOf(name.charAt(0)) < 0);
        return name;
    }

    private Expression makeIndex() {
        put("[");
        opens++;
        Expression e;
        if (chance(80)) {
            int index = random.nextInt(4);
            put("" + index);
            e = frame -> index;
        } else {
            e = makeExpression();
        }
        opens--;
        put("]");
        return e;
    }

    private Row checked(Object row, int i, int place) {
        if (row == null) {
            throw fault(1, place, 0);
        }
        if (i < 0 || i >= ((Row) row).elements.length) {
            throw fault(2, place, 0);
        }
        return (Row) row;
    }

    private Statement makeStore() {
        String cell = anyCell("ADIJ");
        int place = put(cell);
        Expression index = makeIndex();
        if (cell.charAt(0) == 'J') {
            boolean num = chance(50);
            put(num ? ". num =" : ". mark =");
            Expression e = makeExpression();
            put(";");
            return stepped(frame -> {
                Object row = cells.get(cell);
                int i = index.value(frame);
                Box box = (Box) checked(row, i, place).elements[i];
                int value = e.value(frame);
                if (!num && box != null && box.kind == 0) {
                    throw fault(4, place, 0);
                }
                if (box == null) {
                    throw fault(1, place, 0);
                }
                keep(1);
                if (num) {
                    box.num = value;
                } else {
                    box.mark = value;
                }
            });
        }
        boolean twice = cell.charAt(0) == 'I';
        Expression second = twice ? makeIndex() : null;
        put("=");
        Expression e = makeExpression();
        put(";");
        return stepped(frame -> {
            Object row = cells.get(cell);
            int i = index.value(frame);
            if (twice) {
                row = checked(row, i, place).elements[i];
                i = second.value(frame);
            }
            int value = e.value(frame);
            Row found = checked(row, i, place);
            keep(1);
            found.elements[i] = found.lane == 'A' ? (int) (byte) value : value;
        });
    }

    private Statement makeThingStore() {
        String cell = anyCell("IJ");
        int place = put(cell);
        Expression index = makeIndex();
        put("=");
        Reference thing = cell.charAt(0) == 'I' ? makeThing('D') : makeBoxThing();
        put(";");
        return stepped(frame -> {
            Object row = cells.get(cell);
            int i = index.value(frame);
            Object stored = thing.value(frame);
            Row found = checked(row, i, place);
            if (!canHold(found, stored)) {
                throw fault(5, place, 0);
            }
            keep(1);
            found.elements[i] = stored;
        });
    }

    private static boolean canHold(Row row, Object thing) {
        if (thing == null || thing instanceof Integer) {
            return true;
        }
        switch (row.lane) {
            case 'I': return is(thing, 4);
            case 'J': return is(thing, 13);
            case 'N': return is(thing, 14);
            default: return is(thing, 15);
        }
    }

    private Statement makeNaming() {
        String cell = anyCell("ADIJK");
        put(cell);
        put("=");
        Reference thing = makeThing(cell.charAt(0));
        put(";");
        return stepped(frame -> {
            Object named = thing.value(frame);
            keep(1);
            cells.put(cell, named);
        });
    }

    private Statement makeCopy() {
        int place = put("copy");
        String x = anyCell("ADIJK");
        put(x);
        put(",");
        Expression a = makeExpression();
        put(",");
        String y = chance(50) ? x : anyCell("ADIJK");
        put(y);
        put(",");
        Expression b = makeExpression();
        put(",");
        Expression n = makeExpression();
        put(";");
        return stepped(frame -> {
            Object from = cells.get(x);
            long first = a.value(frame);
            Object to = cells.get(y);
            long second = b.value(frame);
            long count = n.value(frame);
            if (from == null || to == null) {
                throw fault(1, place, 0);
            }
            if (from instanceof Box || to instanceof Box) {
                throw fault(5, place, 0);
            }
            Row source = (Row) from;
            Row target = (Row) to;
            boolean things = "IJNS".indexOf(source.lane) >= 0 && "IJNS".indexOf(target.lane) >= 0;
            if (source.lane != target.lane && !things) {
                throw fault(5, place, 0);
            }
            if (first < 0 || second < 0 || count < 0 || first + count > source.elements.length
                || second + count > target.elements.length) {
                throw fault(2, place, 0);
            }
            keep((int) count);
            Object[] all = java.util.Arrays.copyOfRange(source.elements, (int) first, (int) (first + count));
            for (int i = 0; i < all.length; i++) {
                if (!canHold(target, all[i])) {
                    throw fault(5, place, 0);
                }
                target.elements[(int) second + i] = all[i];
            }
        });
    }

    private Reference makeThing(char column) {
        int choice = random.nextInt(10);
        if (choice == 0) {
            put("none");
            return frame -> null;
        }
        if (choice == 1 && column != 'K') {
            return makeAs("" + (column == 'J' && chance(60) ? (chance(50) ? 'N' : 'S') : column));
        }
        if (choice == 2) {
            int place = put("clone");
            String cell = anyCell("" + column);
            put(cell);
            return frame -> {
                Object thing = cells.get(cell);
                if (thing == null) {
                    throw fault(1, place, 0);
                }
                make(1);
                return cloned(thing);
            };
        }
        if (choice == 3 && column == 'D') {
            String cell = anyCell("I");
            int place = put(cell);
            Expression index = makeIndex();
            return frame -> {
                Object row = cells.get(cell);
                int i = index.value(frame);
                return checked(row, i, place).elements[i];
            };
        }
        if (choice <= 5) {
            String cell = anyCell(column == 'K' ? "ADIJK" : "" + column);
            put(cell);
            return frame -> cells.get(cell);
        }
        if (column == 'K' && choice <= 7) {
            return makeBoxThing();
        }
        return makeNew(column == 'K' ? "ADIJNS".charAt(random.nextInt(6)) : column == 'J' ? "JNS".charAt(random.nextInt(3)) : column);
    }

    private Object cloned(Object thing) {
        if (thing instanceof Box) {
            Box box = new Box();
            box.kind = ((Box) thing).kind;
            box.num = ((Box) thing).num;
            box.mark = ((Box) thing).mark;
            return box;
        }
        Row row = new Row(((Row) thing).lane, ((Row) thing).elements.length);
        System.arraycopy(((Row) thing).elements, 0, row.elements, 0, row.elements.length);
        return row;
    }

    private Reference makeNew(char lane) {
        int place = put("new");
        put("" + lane);
        Expression count = makeCount();
        if (lane != 'I' || chance(40)) {
            return frame -> {
                int size = count.value(frame);
                if (size < 0) {
                    throw fault(3, place, 0);
                }
                if (size > 32) {
                    throw new Stop(3);
                }
                make(1);
                return new Row(lane, size);
            };
        }
        put(",");
        Expression second = makeCount();
        return frame -> {
            int size = count.value(frame);
            int inner = second.value(frame);
            if (size < 0 || inner < 0) {
                throw fault(3, place, 0);
            }
            if (size > 32 || inner > 32) {
                throw new Stop(3);
            }
            make(1 + size);
            Row row = new Row('I', size);
            for (int i = 0; i < size; i++) {
                row.elements[i] = new Row('D', inner);
            }
            return row;
        };
    }

    private Expression makeCount() {
        if (chance(90)) {
            int count = random.nextInt(5);
            put("" + count);
            return frame -> count;
        }
        return makeExpression();
    }

    private Reference makeAs(String wanted) {
        String cell = anyCell("K");
        int place = put(cell);
        put("as");
        put(wanted);
        int kind = wanted.length() == 1 ? "ABCDEFGHIJNS".indexOf(wanted) + 1
            : 13 + java.util.Arrays.asList("box", "note", "seal").indexOf(wanted);
        return frame -> {
            Object thing = cells.get(cell);
            if (thing != null && !is(thing, kind)) {
                throw fault(4, place, 0);
            }
            return thing;
        };
    }

    private Reference makeBoxThing() {
        int choice = random.nextInt(6);
        if (choice == 0) {
            put("none");
            return frame -> null;
        }
        if (choice == 1) {
            return makeAs(chance(50) ? "box" : chance(50) ? "note" : "seal");
        }
        if (choice == 2) {
            String cell = anyCell("J");
            int place = put(cell);
            Expression index = makeIndex();
            return frame -> {
                Object row = cells.get(cell);
                int i = index.value(frame);
                return checked(row, i, place).elements[i];
            };
        }
        int kind = random.nextInt(3);
        put(kind == 0 ? "box" : kind == 1 ? "note" : "seal");
        Expression num = makeExpression();
        if (kind > 0) {
            put(",");
        }
        Expression mark = kind > 0 ? makeExpression() : frame -> 0;
        return frame -> {
            Box box = new Box();
            box.kind = kind;
            box.num = num.value(frame);
            box.mark = mark.value(frame);
            make(1);
            return box;
        };
    }

    private Expression makeCall() {
        Macro macro = macros.get(random.nextInt(macros.size()));
        int place = put(macro.name);
        put("(");
        opens++;
        Expression a = makeExpression();
        put(",");
        Expression b = makeExpression();
        opens--;
        put(")");
        return frame -> {
            int[] given = {a.value(frame), b.value(frame)};
            if (depth == 12) {
                throw fault(8, place, 0);
            }
            step();
            return call(macro, given);
        };
    }

    private Expression makeExpression() {
        if (opens >= 4 || text.length() > 3400) {
            int number = random.nextInt(4);
            put("" + number);
            return frame -> number;
        }
        switch (random.nextInt(12)) {
            case 0:
            case 1:
            case 2: {
                int number = random.nextInt(6);
                put("" + number);
                return frame -> number;
            }
            case 3:
            case 4: {
                String name = names.get(random.nextInt(names.size()));
                put(name);
                return frame -> frame.names.get(name);
            }
            case 5: return makeOperation();
            case 6: {
                put("(");
                opens++;
                put("-");
                opens++;
                Expression e = makeExpression();
                opens -= 2;
                put(")");
                return frame -> -e.value(frame);
            }
            case 7: return chance(40) ? makeCall() : makeSize();
            case 8: return makeWorth();
            default: return makeRead();
        }
    }

    private Expression makeOperation() {
        put("(");
        opens++;
        Expression left = makeExpression();
        String sign = "+-*/%".substring(random.nextInt(5)).substring(0, 1);
        int place = put(sign);
        Expression right = makeExpression();
        opens--;
        put(")");
        return frame -> {
            int x = left.value(frame);
            int y = right.value(frame);
            switch (sign) {
                case "+": return x + y;
                case "-": return x - y;
                case "*": return x * y;
                default:
                    if (y == 0) {
                        throw fault(6, place, 0);
                    }
                    return sign.equals("/") ? x / y : x % y;
            }
        };
    }

    private Expression makeSize() {
        int place = put("size");
        String cell = anyCell("ADIJK");
        int cellPlace = put(cell);
        Expression index = cell.charAt(0) == 'I' && chance(50) ? makeIndex() : null;
        return frame -> {
            Object thing = cells.get(cell);
            if (index != null) {
                int i = index.value(frame);
                thing = checked(thing, i, cellPlace).elements[i];
            }
            if (thing == null) {
                throw fault(1, place, 0);
            }
            if (thing instanceof Box) {
                throw fault(4, place, 0);
            }
            return ((Row) thing).elements.length;
        };
    }

    private Expression makeWorth() {
        put("int (");
        int place = put("worth");
        put("(");
        opens += 2;
        Reference thing = makeBoxThing();
        opens -= 2;
        put(") )");
        return frame -> {
            Box box = (Box) thing.value(frame);
            if (box == null) {
                throw fault(1, place, 0);
            }
            long worth = box.num + box.mark;
            return (int) (box.kind == 2 ? 2 * worth : worth);
        };
    }

    private Expression makeRead() {
        String cell = anyCell("ADIJ");
        boolean isBox = cell.charAt(0) == 'J';
        boolean num = isBox && chance(50);
        if (num) {
            put("int (");
            opens++;
        }
        int place = put(cell);
        Expression index = makeIndex();
        Expression second = cell.charAt(0) == 'I' ? makeIndex() : null;
        if (isBox) {
            put(num ? ". num )" : ". mark");
            opens -= num ? 1 : 0;
        }
        return frame -> {
            Object row = cells.get(cell);
            int i = index.value(frame);
            Object element = checked(row, i, place).elements[i];
            if (second != null) {
                int j = second.value(frame);
                return (Integer) checked(element, j, place).elements[j];
            }
            if (!isBox) {
                return (Integer) element;
            }
            Box box = (Box) element;
            if (box == null) {
                throw fault(1, place, 0);
            }
            if (!num && box.kind == 0) {
                throw fault(4, place, 0);
            }
            return num ? (int) box.num : box.mark;
        };
    }

    private Expression makeCondition() {
        switch (random.nextInt(6)) {
            case 0: {
                String cell = anyCell("K");
                put(cell);
                put("is");
                String wanted = new String[] {"A", "D", "I", "J", "N", "S", "box", "note", "seal"}[random.nextInt(9)];
                put(wanted);
                int kind = wanted.length() == 1 ? "ABCDEFGHIJNS".indexOf(wanted) + 1
                    : 13 + java.util.Arrays.asList("box", "note", "seal").indexOf(wanted);
                return frame -> is(cells.get(cell), kind) ? 1 : 0;
            }
            case 1: {
                put("same (");
                opens++;
                // No new I: that would take the comma behind it for its own.
                Reference left = chance(50) ? makeBoxThing() : makeThing('D');
                put(",");
                Reference right = makeThing('K');
                opens--;
                put(")");
                return frame -> left.value(frame) == right.value(frame) ? 1 : 0;
            }
            case 2: {
                put("not (");
                opens += 2;
                Expression e = makeCondition();
                opens -= 2;
                put(")");
                return frame -> 1 - e.value(frame);
            }
            case 3: {
                boolean isAnd = chance(50);
                put("(");
                opens++;
                Expression left = makeCondition();
                put(isAnd ? "and" : "or");
                Expression right = makeCondition();
                opens--;
                put(")");
                return frame -> isAnd ? (left.value(frame) != 0 && right.value(frame) != 0 ? 1 : 0)
                    : (left.value(frame) != 0 || right.value(frame) != 0 ? 1 : 0);
            }
            default: {
                Expression left = makeExpression();
                put("<");
                Expression right = makeExpression();
                return frame -> left.value(frame) < right.value(frame) ? 1 : 0;
            }
        }
    }
}
