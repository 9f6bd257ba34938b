/** Promises 1 and 10 to 13: cells, elements, what is within, and clear. */
public final class CellsTest {
    public static void main(String[] args) {
        fresh();
        cells();
        elements();
        withins();
        cleared();
        Sheet.end();
    }

    private static void fresh() {
        LaneSheet sheet = new LaneSheet();
        for (int c = 0; c < 88; c++) {
            Sheet.due("cell(" + c + ", 0)", sheet.cell(c, 0), 0);
            Sheet.due("cell(" + c + ", 1)", sheet.cell(c, 1), -1);
            Sheet.due("cell(" + c + ", 2)", sheet.cell(c, 2), -1);
            Sheet.due("element(" + c + ", 0)", Sheet.element(sheet, c, 0), Sheet.THROWN);
            Sheet.due("within(" + c + ", 0, 0)", Sheet.within(sheet, c, 0, 0), Sheet.THROWN);
        }
        Sheet.due("no program", sheet.run(0, 1, 0, 0, 0), -1);
        Sheet.due("empty tape", sheet.compile(1), -2);
        Sheet.due("NONE", LaneSheet.NONE, -1);
    }

    private static void cells() {
        StringBuilder text = new StringBuilder("macro m() { ");
        for (char lane = 'A'; lane <= 'J'; lane++) {
            text.append(lane).append("7 = new ").append(lane).append(' ').append(lane - 'A' + 1).append("; ");
        }
        text.append("J0 = new N 11; J1 = new S 12; K0 = new A 32; K1 = new N 0; K2 = box 1; K3 = note 1, 2; K4 = seal 1, 2;"
            + " K5 = J1; K6 = K3; J2 = J1; K7 = A7; }");
        LaneSheet sheet = Sheet.of(text.toString());
        Sheet.due("run", sheet.run(0, 50, 0, 0, 0), 0);
        for (int column = 0; column < 10; column++) {
            Sheet.due("kind of column " + column, sheet.cell(8 * column + 7, 0), column + 1);
            Sheet.due("size of column " + column, sheet.cell(8 * column + 7, 1), column + 1);
            Sheet.due("lowest of column " + column, sheet.cell(8 * column + 7, 2), 8 * column + 7);
        }
        int[] kinds = {1, 11, 13, 14, 15, 12, 14, 1};
        int[] sizes = {32, 0, 0, 0, 0, 12, 0, 1};
        int[] lowest = {80, 81, 82, 83, 84, 73, 83, 7};
        for (int row = 0; row < 8; row++) {
            Sheet.due("kind of K" + row, sheet.cell(80 + row, 0), kinds[row]);
            Sheet.due("size of K" + row, sheet.cell(80 + row, 1), sizes[row]);
            Sheet.due("lowest of K" + row, sheet.cell(80 + row, 2), lowest[row]);
        }
        Sheet.due("N in J", sheet.cell(72, 0), 11);
        Sheet.due("S in J", sheet.cell(74, 0), 12);
        Sheet.due("its lowest", sheet.cell(74, 2), 73);
        int[][] others = {{-1, 0}, {88, 0}, {7, 3}, {7, -1}, {Integer.MIN_VALUE, 2}, {Integer.MAX_VALUE, 1}};
        for (int[] other : others) {
            Sheet.due("cell of others", sheet.cell(other[0], other[1]), -1);
        }
    }

    private static void elements() {
        LaneSheet sheet = Sheet.ran("A0 = new A 2; A0[1] = - 3; B0 = new B 1; B0[0] = - 1; C0 = new C 1; C0[0] = - 9;"
            + " D0 = new D 1; D0[0] = - 8; E0 = new E 1; E0[0] = - 7; F0 = new F 2; F0[0] = - 1.0f; F0[1] = float(nan);"
            + " G0 = new G 2; G0[0] = - 1; G0[1] = - nan; H0 = new H 2; H0[1] = true; I0 = new I 3; I0[0] = new D 0;"
            + " I0[1] = new D 5; J0 = new J 4; J0[1] = box 1; J0[2] = note 1, 2; J0[3] = seal 1, 2; K0 = box - 5;"
            + " K1 = note - 6l, - 7; K2 = seal 8, 9; J1 = new N 2; J1[1] = seal 1, 2; K3 = J0;", "");
        long[][] want = {{0, 0, 0}, {0, 1, -3}, {8, 0, 65535}, {16, 0, -9}, {24, 0, -8}, {32, 0, -7},
            {40, 0, (int) 0xbf800000}, {40, 1, 0x7fc00000}, {48, 0, 0xbff0000000000000L}, {48, 1, 0x7ff8000000000000L},
            {56, 0, 0}, {56, 1, 1}, {64, 0, 0}, {64, 1, 5}, {64, 2, -1}, {72, 0, 0}, {72, 1, 1}, {72, 2, 2}, {72, 3, 3},
            {80, 0, -5}, {81, 0, -6}, {81, 1, -7}, {82, 0, 8}, {82, 1, 9}, {73, 0, 0}, {73, 1, 3}, {83, 2, 2},
            {0, 2, Sheet.THROWN}, {0, -1, Sheet.THROWN}, {72, 4, Sheet.THROWN}, {80, 1, Sheet.THROWN},
            {81, 2, Sheet.THROWN}, {82, -1, Sheet.THROWN}, {87, 0, Sheet.THROWN}, {88, 0, Sheet.THROWN},
            {-1, 0, Sheet.THROWN}, {Integer.MIN_VALUE, 0, Sheet.THROWN}, {0, Integer.MAX_VALUE, Sheet.THROWN},
            {64, 3, Sheet.THROWN}};
        for (long[] row : want) {
            Sheet.due("element(" + row[0] + ", " + row[1] + ")", Sheet.element(sheet, (int) row[0], (int) row[1]), row[2]);
        }
    }

    private static void withins() {
        LaneSheet sheet = Sheet.ran("I0 = new I 3, 2; I0[1][1] = - 4; I0[2] = none; J0 = new J 4; J0[1] = box - 1;"
            + " J0[2] = note 2, - 3; J0[3] = seal 4, 5; J1 = new N 1; J1[0] = note 6, 7; J2 = new S 1; J2[0] = seal 8, 9;"
            + " K0 = I0; K1 = J2; K2 = note 1, 2; D0 = new D 2;", "");
        long[][] want = {{64, 0, 0, 0}, {64, 1, 1, -4}, {72, 1, 0, -1}, {72, 2, 0, 2}, {72, 2, 1, -3}, {72, 3, 0, 4},
            {72, 3, 1, 5}, {73, 0, 1, 7}, {74, 0, 0, 8}, {80, 1, 1, -4}, {81, 0, 1, 9},
            {64, 1, 2, Sheet.THROWN}, {64, 1, -1, Sheet.THROWN}, {64, 2, 0, Sheet.THROWN}, {64, 3, 0, Sheet.THROWN},
            {64, -1, 0, Sheet.THROWN}, {72, 0, 0, Sheet.THROWN}, {72, 1, 1, Sheet.THROWN}, {72, 2, 2, Sheet.THROWN},
            {72, 2, -1, Sheet.THROWN}, {72, 4, 0, Sheet.THROWN}, {82, 0, 0, Sheet.THROWN}, {24, 0, 0, Sheet.THROWN},
            {75, 0, 0, Sheet.THROWN}, {88, 0, 0, Sheet.THROWN}, {-1, 0, 0, Sheet.THROWN}};
        for (long[] row : want) {
            Sheet.due("within(" + row[0] + ", " + row[1] + ", " + row[2] + ")",
                Sheet.within(sheet, (int) row[0], (int) row[1], (int) row[2]), row[3]);
        }
    }

    private static void cleared() {
        LaneSheet sheet = Sheet.ran("A0 = new A 2; K7 = box 1; J3 = new J 1; print 5;", "5");
        sheet.clear();
        for (int c = 0; c < 88; c++) {
            Sheet.due("cleared " + c, sheet.cell(c, 0), 0);
        }
        Sheet.due("about stays", sheet.about(5), 3);
        Sheet.due("about stays", sheet.about(9), 3);
        Sheet.due("out stays", Sheet.out(sheet, 0, 1), 5);
        Sheet.due("the program stays", sheet.run(0, 50, 0, 0, 0), 0);
        Sheet.due("MADE in all", sheet.about(9), 6);
        Sheet.due("cells again", sheet.cell(0, 0), 1);
    }
}
