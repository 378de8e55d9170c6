/** The edges of values and errors: promises 19 to 30. */
final class ValueBoundaries {
    private static final String DEEP_BRACKETS = "=" + "(".repeat(29) + "1" + ")".repeat(29);

    private final Bounds bounds;

    ValueBoundaries(Bounds bounds) {
        this.bounds = bounds;
    }

    void test() {
        numbersAndNothing();
        fromTheLeftToTheRight();
        ranks();
        quotients();
        comparisons();
        sizes();
        depths();
        errorsOfReferences();
        throughArguments();
        withoutValues();
        counting();
        choosing();
        askingForKinds();
        askingForValues();
        askingForErrors();
        formulaTexts();
    }

    /** A sheet whose cells A1 to A5 have an error of each kind, C1 and C2 the greatest and the least value. */
    private static Desk errors() {
        Desk desk = new Desk().with("A1", "=1/0", "A2", "=C1+1", "A3", "=E5", "A4", "=MIN(H1:H9)", "A5", "=A5", "C1",
            "=999999*1000+999", "C2", "=-999999*1000-999");
        desk.sheet.moveCell(99, 44);
        return desk;
    }

    /** A formula, what it is worth, and so on. */
    private void worth(Desk desk, Object... rows) {
        for (int place = 0; place + 1 < rows.length; place += 2) {
            String formula = (String) rows[place];
            desk.enter("J20", formula);
            bounds.due(rows[place + 1].toString(), desk.told("J20"), formula);
            String asked = Checks.outcome(() -> desk.sheet.valueByAsking(199));
            bounds.due(desk.sheet.hasValue(199) ? desk.told("J20") : Bounds.STATE, asked, formula + " by asking");
        }
    }

    private void numbersAndNothing() {
        bounds.terms("The value of a cell with a number is this number; that of an empty cell is 0.");
        Desk desk = new Desk();
        for (int number : new int[] {-999999, -1, 0, 1, 999999}) {
            desk.sheet.setNumber(0, number);
            bounds.due(number, desk.value("A1"), "the number " + number);
            desk.enter("A2", Integer.toString(number));
            bounds.due(number, desk.value("A2"), "the content " + number);
        }
        bounds.due(0, desk.value("B1"), "an empty cell");
        bounds.due(0, desk.value("J20"), "the last cell, empty");
        desk.sheet.clear(0);
        bounds.due(0, desk.value("A1"), "a cell that was cleared");
        bounds.terms("A formula has a value, or an error.");
        Desk errors = errors();
        String[] due = {"DIVISION", "SIZE", "REFERENCE", "VALUES", "CYCLE"};
        for (int row = 0; row < 5; row++) {
            bounds.due(due[row], errors.told(10 * row), "one error alone");
        }
        bounds.due("999999999 -999999999", errors.told("C1") + " " + errors.told("C2"), "a value and no error");
    }

    private void fromTheLeftToTheRight() {
        bounds.terms("It is computed from the left to the right; the first error that is met is the error of the "
            + "whole, and nothing else is looked at then.");
        String[] kinds = {"DIVISION", "SIZE", "REFERENCE", "VALUES"};
        for (int one = 0; one < 4; one++) {
            for (int two = 0; two < 4; two++) {
                String first = "A" + (one + 1);
                String second = "A" + (two + 1);
                Desk desk = errors();
                for (String sign : new String[] {"+", "-", "*", "/", "<", ">", "="}) {
                    worth(desk, "=" + first + sign + second, kinds[one]);
                }
                worth(desk, "=SUM(" + first + "," + second + ")", kinds[one],
                    "=MIN(1," + first + "," + second + ")", kinds[one],
                    "=MAX(" + first + ":" + first + "," + second + ")", kinds[one],
                    "=COUNT(" + first + "," + second + ")", kinds[one],
                    "=IF(" + first + "," + second + ",1)", kinds[one], "=(-" + first + ")+" + second, kinds[one],
                    "=ABS(" + first + ")*" + second, kinds[one]);
            }
        }
        worth(errors(), "=A4+1/0", "VALUES", "=1/0+A4", "DIVISION", "=1+2*3/0-A2", "DIVISION", "=A2*0", "SIZE", "=0*A2",
            "SIZE", "=A1-A1", "DIVISION", "=0/A4", "VALUES", "=A4/0", "VALUES", "=(C1+1)/0", "SIZE", "=C1+1-1", "SIZE");
    }

    private void ranks() {
        bounds.terms("\"*\" and \"/\" go ahead of \"+\" and \"-\", otherwise operations of the same rank go from the "
            + "left to the right; first the left side of an operation is computed, then the right one, then the "
            + "operation.");
        worth(errors(), "=2+3*4", 14, "=2*3+4", 10, "=20-12/4", 17, "=12/4-20", -17, "=10-3-2", 5, "=10-3+2", 9,
            "=100/10/5", 2, "=100/10*5", 50, "=7/2*2", 6, "=2*7/2", 7, "=1-2*3-4*5", -25, "=-2*3", -6, "=2*-3", -6,
            "=-7/2", -4, "=-(7/2)", -3, "=1+1<1*3", 1, "=1<1+1", 1, "=0/(1/0)", "DIVISION", "=C1*2/0", "SIZE",
            "=C1*2/A4", "SIZE", "=1/0*A4", "DIVISION", "=1+C1/0", "DIVISION", "=C1+1*A4", "VALUES", "=C1+1+A4", "SIZE");
    }

    private void quotients() {
        bounds.terms("A quotient is rounded down (to the next lesser whole number); a division by 0 is the error "
            + "DIVISION.");
        worth(errors(), "=6/3", 2, "=7/3", 2, "=8/3", 2, "=-6/3", -2, "=-7/3", -3, "=-8/3", -3, "=7/-3", -3,
            "=-7/-3", 2, "=-6/-3", 2, "=0/3", 0, "=0/-3", 0, "=1/999999", 0, "=-1/999999", -1, "=1/-999999", -1,
            "=1/C1", 0, "=-1/C1", -1, "=C1/C1", 1, "=C2/C1", -1, "=C2/-1", 999999999, "=C1/-1", -999999999,
            "=C1/2", 499999999, "=C2/2", -500000000, "=1/1", 1, "=1/-1", -1, "=1/0", "DIVISION", "=0/0", "DIVISION",
            "=-1/0", "DIVISION", "=C1/0", "DIVISION", "=1/-0", "DIVISION", "=1/E9", "DIVISION", "=1/(2-2)", "DIVISION",
            "=1/(1/2)", "DIVISION", "=1/(1<0)", "DIVISION", "=0/0*0", "DIVISION");
    }

    private void comparisons() {
        bounds.terms("A comparison is 1 if it is true, and 0 if not.");
        worth(errors(), "=1<2", 1, "=2<2", 0, "=3<2", 0, "=3>2", 1, "=2>2", 0, "=1>2", 0, "=2=2", 1, "=1=2", 0,
            "=-1<0", 1, "=0=-0", 1, "=E9=0", 1, "=C1>C2", 1, "=C2<C1", 1, "=C1<C1", 0, "=C2=C2", 1,
            "=(1<2)+(2>1)+(1=1)", 3, "=(1<2)=1", 1, "=C1-1<C1", 1, "=C2>C2+1", 0);
    }

    private void sizes() {
        bounds.terms("If the result of an operation, a sign, or a step of SUM (or of ABS) is below -999999999 or above "
            + "999999999, that is the error SIZE.");
        Desk desk = errors();
        worth(desk, "=C1+0", 999999999, "=C1+1", "SIZE", "=C2+0", -999999999, "=C2+-1", "SIZE", "=C1-0", 999999999,
            "=C1--1", "SIZE", "=C2-0", -999999999, "=C2-1", "SIZE", "=C1+C2", 0, "=C1-C2", "SIZE", "=C2-C1", "SIZE",
            "=C1-1+1", 999999999, "=C1+1-1", "SIZE", "=C2+1-1", -999999999, "=C2-1+1", "SIZE", "=0-C1", -999999999,
            "=0-C2", 999999999);
        worth(desk, "=333667*2997", 999999999, "=-333667*2997", -999999999, "=333667*-2997", -999999999,
            "=100000*10000", "SIZE", "=-100000*10000", "SIZE", "=100000*-10000", "SIZE", "=C1*1", 999999999,
            "=C1*-1", -999999999, "=C1*C1", "SIZE", "=C1*C2", "SIZE", "=C2*C2", "SIZE", "=C1*0", 0, "=C1*2", "SIZE",
            "=999999*1000", 999999000, "=999999*1001", "SIZE");
        worth(desk, "=-C1", -999999999, "=-C2", 999999999, "=--C2", -999999999, "=ABS(C1)", 999999999,
            "=ABS(C2)", 999999999, "=ABS(C2-1)", "SIZE", "=ABS(C1+1)", "SIZE", "=-ABS(C2)", -999999999);
        worth(desk, "=SUM(C1)", 999999999, "=SUM(C2)", -999999999, "=SUM(C1,0)", 999999999, "=SUM(C1,1)", "SIZE",
            "=SUM(C2,-1)", "SIZE", "=SUM(C1,1,-1)", "SIZE", "=SUM(C1,-1,1)", 999999999, "=SUM(C2,-1,1)", "SIZE",
            "=SUM(C2,1,-1)", -999999999, "=SUM(C1:C2)", 0, "=SUM(C1:C2,C1:C2)", 0, "=SUM(C1:C1,C1:C2)", "SIZE",
            "=SUM(C1:C2,C2,-1)", "SIZE");
        worth(desk, "=MIN(C1,C2)", -999999999, "=MAX(C1,C2)", 999999999, "=MIN(C1:C1)", 999999999,
            "=MAX(C2:C2)", -999999999, "=IF(C1,C2,0)", -999999999, "=COUNT(C1,C2)", 2);
    }

    private void depths() {
        bounds.promise(22, "Returns the value.");
        Desk desk = new Desk();
        worth(desk, DEEP_BRACKETS, 1, "=" + "-".repeat(58) + "1", 1, "=" + "-".repeat(57) + "1", -1,
            "=" + "ABS(".repeat(11) + "-7" + ")".repeat(11), 7, "=" + "IF(".repeat(7) + "0" + ",0,1)".repeat(7), 1,
            "=" + "IF(1,".repeat(7) + "2" + ",3)".repeat(7), 2, "=" + "SUM(".repeat(11) + "1,2" + ")".repeat(11), 3,
            "=" + "-(".repeat(19) + "5" + ")".repeat(19), -5, "=1" + "+1".repeat(29), 30, "=1" + "-1".repeat(29), -28,
            "=1" + "*1".repeat(29), 1, "=9" + "/1".repeat(29), 9, "=SUM(" + "1,".repeat(26) + "10)", 36,
            "=" + "COUNT(".repeat(8) + "1" + ")".repeat(8), 1, "=IF(0," + "(".repeat(25) + "1" + ")".repeat(25) + ",2)",
            2);
    }

    private void errorsOfReferences() {
        bounds.terms("A reference has the value, or the error, of its cell.");
        worth(errors(), "=C1", 999999999, "=C2", -999999999, "=E9", 0, "=A1", "DIVISION", "=A2", "SIZE", "=A3",
            "REFERENCE", "=A4", "VALUES", "=A5", "CYCLE", "=$A$1", "DIVISION", "=SUM(A4:A4)", "VALUES");
        bounds.terms("A broken reference, or range, has the error REFERENCE.");
        Desk desk = new Desk().with("A1", "1", "B1", "=A1", "C1", "=SUM(A1:A1)", "D1", "=COUNT(A1:A1)", "E1",
            "=COUNT(A1)", "F1", "=IF(1,2,A1)", "G1", "=IF(0,2,A1)", "H1", "=MIN(2,A1:A1)", "I1", "=1/0+A1");
        desk.sheet.deleteColumn(0);
        String told = "";
        for (int cell = 0; cell < 8; cell++) {
            told += desk.told(cell) + " ";
        }
        bounds.due("REFERENCE REFERENCE REFERENCE REFERENCE 2 REFERENCE REFERENCE DIVISION ", told,
            "what refers to a deleted cell");
    }

    private void throughArguments() {
        bounds.terms("The arguments of SUM, MIN, MAX and COUNT are gone through from the left to the right, the cells "
            + "of a range by their numbers; empty cells of ranges are passed over.");
        Desk desk = new Desk().with("B1", "=1/0", "A2", "=MIN(H1:H9)", "D1", "=MIN(H1:H9)", "C2", "=1/0", "F5", "0",
            "F9", "-3");
        worth(desk, "=SUM(A1:B2)", "DIVISION", "=SUM(B2:A1)", "DIVISION", "=SUM(A2:B1)", "DIVISION", "=SUM(C1:D2)",
            "VALUES", "=MIN(C1:D2)", "VALUES", "=MAX(D2:C1)", "VALUES", "=SUM(A2,B1)", "VALUES", "=SUM(A2:A2,B1:B1)",
            "VALUES", "=MAX(B1:B1,A2:A2)", "DIVISION", "=MIN(F1:F9)", -3, "=MAX(F1:F9)", 0, "=MAX(F6:F9)", -3,
            "=MIN(F1:F8)", 0, "=SUM(F1:F9)", -3, "=COUNT(F1:F9)", 2, "=MIN(F6:F8,7)", 7, "=MAX(F6:F8,-7)", -7,
            "=SUM(F6:F8,7)", 7, "=MIN(F6,7)", 0, "=MAX(F6,-7)", 0);
        Desk great = new Desk().with("A1", "=999999*1000+999", "B1", "1", "A2", "-1");
        worth(great, "=SUM(A1:B1)", "SIZE", "=SUM(A1:B2)", "SIZE", "=SUM(A1:A2,B1)", 999999999, "=SUM(B1:B1,A1:A2)",
            "SIZE", "=SUM(A2:A2,A1:B1)", 999999999);
    }

    private void withoutValues() {
        bounds.terms("SUM adds all (0 without any), MIN and MAX find the least and the greatest one; without any they "
            + "are the error VALUES.");
        Desk desk = new Desk().with("A1", "5", "B1", "-5", "C1", "0");
        worth(desk, "=SUM(H1:H9)", 0, "=SUM(H1:H9,I1:I9)", 0, "=MIN(H1:H9)", "VALUES", "=MAX(H1:H9)", "VALUES",
            "=MIN(H1:H1)", "VALUES", "=MAX(H1:H9,I1:I9)", "VALUES", "=MIN(H1:H9,0)", 0, "=MAX(0,H1:H9)", 0,
            "=MIN(A1:C1)", -5, "=MAX(A1:C1)", 5, "=MIN(A1:A1)", 5, "=MAX(B1:B1)", -5, "=MIN(1,2,3)", 1,
            "=MIN(3,2,1)", 1, "=MAX(1,2,3)", 3, "=MAX(3,2,1)", 3, "=MIN(2,2)", 2, "=MAX(-2,-2)", -2, "=SUM(A1:C1)", 0,
            "=SUM(A1)", 5, "=SUM(A1,A1:A1,A1)", 15, "=SUM(MIN(H1:H9))", "VALUES", "=SUM(A2:J19)", 0);
    }

    private void counting() {
        bounds.terms("COUNT is how many values there are: a cell of a range that is not empty counts 1, whatever is in "
            + "it (also an error); an argument that is a comparison is computed, and counts 1.");
        worth(errors(), "=COUNT(H1:H9)", 0, "=COUNT(A1:A1)", 1, "=COUNT(A1:A4)", 4, "=COUNT(A2:A4,A1:A4)", 7,
            "=COUNT(C1:C3)", 2, "=COUNT(0)", 1, "=COUNT(1,2,3)", 3, "=COUNT(H1)", 1, "=COUNT(C1)", 1, "=COUNT(1<2)", 1,
            "=COUNT(A1)", "DIVISION", "=COUNT(1/0)", "DIVISION", "=COUNT(A1:A4,A3)", "REFERENCE", "=COUNT(A2,A1:A4)",
            "SIZE", "=COUNT(-A4)", "VALUES", "=COUNT((A1))", "DIVISION", "=COUNT(A1:A5)", "CYCLE",
            "=COUNT(COUNT(H1:H9))", 1);
        Desk all = Desk.everywhere("7");
        all.with("A1", "=COUNT(B1:J20,A2:A20)");
        bounds.due(199, all.value("A1"), "all cells but one");
    }

    private void choosing() {
        bounds.terms("IF computes its first part; if that is not 0, it computes the second part and has its value, "
            + "otherwise the third one; the other part is not computed.");
        worth(errors(), "=IF(1,2,3)", 2, "=IF(0,2,3)", 3, "=IF(-1,2,3)", 2, "=IF(2,2,3)", 2, "=IF(C1,2,3)", 2,
            "=IF(C2,2,3)", 2, "=IF(E9,2,3)", 3, "=IF(1<2,2,3)", 2, "=IF(2<1,2,3)", 3, "=IF(1/2,2,3)", 3,
            "=IF(-1/2,2,3)", 2, "=IF(1,2,1/0)", 2, "=IF(0,1/0,3)", 3, "=IF(1,1/0,A4)", "DIVISION", "=IF(0,1/0,A4)",
            "VALUES", "=IF(A2,1,2)", "SIZE", "=IF(0,A1,IF(1,5,A2))", 5, "=IF(1,IF(0,A1,5),A2)", 5,
            "=IF(0,SUM(A1:A4,(1)),3)*2", 6, "=IF(1,3,MIN(A1:A4,IF(1,2,3)))*2", 6, "=IF(1,2,3)+IF(0,2,3)", 5,
            "=SUM(IF(1,2,1/0),IF(0,1/0,3))", 5, "=IF(IF(0,1,0),2,3)", 3, "=IF(1,0,5)", 0, "=IF(1,C1+1,2)", "SIZE");
    }

    private void askingForKinds() {
        Desk desk = new Desk().with("A1", "0", "B1", "=0", "C1", "=1/0", "J20", "5");
        bounds.promise(19, "Tells whether a cell is empty.");
        bounds.promise(19, "Returns whether it is.");
        bounds.due("false false false true false", desk.sheet.isEmpty(0) + " " + desk.sheet.isEmpty(1) + " "
            + desk.sheet.isEmpty(2) + " " + desk.sheet.isEmpty(198) + " " + desk.sheet.isEmpty(199), "isEmpty");
        bounds.cells(19, "- `cell`: 0 to 199", CalculatedSheet::isEmpty);
        bounds.cells(19, "Throws `IllegalArgumentException` if cell is out of range", CalculatedSheet::isEmpty);
        bounds.promise(20, "Tells whether a cell has a formula.");
        bounds.promise(20, "Returns whether it has.");
        bounds.due("false true true false false", desk.sheet.isFormula(0) + " " + desk.sheet.isFormula(1) + " "
            + desk.sheet.isFormula(2) + " " + desk.sheet.isFormula(198) + " " + desk.sheet.isFormula(199), "isFormula");
        bounds.cells(20, "- `cell`: 0 to 199", CalculatedSheet::isFormula);
        bounds.cells(20, "Throws `IllegalArgumentException` if cell is out of range", CalculatedSheet::isFormula);
        bounds.promise(21, "Tells whether a cell has a value (an empty one has).");
        bounds.yes(desk.sheet.hasValue(198), "an empty one has");
        bounds.yes(new CalculatedSheet().hasValue(0), "an empty one has, in an empty sheet");
        bounds.promise(21, "Returns whether it has no error.");
        bounds.due("true true false true", desk.sheet.hasValue(0) + " " + desk.sheet.hasValue(1) + " "
            + desk.sheet.hasValue(2) + " " + desk.sheet.hasValue(199), "hasValue");
        Desk errors = errors();
        for (int row = 0; row < 5; row++) {
            bounds.no(errors.sheet.hasValue(10 * row), "hasValue of " + errors.told(10 * row));
        }
        bounds.cells(21, "- `cell`: 0 to 199", CalculatedSheet::hasValue);
        bounds.cells(21, "Throws `IllegalArgumentException` if cell is out of range", CalculatedSheet::hasValue);
    }

    /** Calls that want a value are refused for each kind of error. */
    private void needsValue(String what, Bounds.OfNumber call) {
        Scene scene = new Scene("", () -> errors().write("=1"));
        for (int row = 0; row < 5; row++) {
            int cell = 10 * row;
            bounds.refuses(Bounds.STATE, scene, sheet -> call.answer(sheet, cell), what + " of the error in "
                + Desk.name(cell));
        }
        bounds.refuses(Bounds.ARGUMENT, scene, sheet -> call.answer(sheet, 200), what + " beyond the sheet");
        bounds.refuses(Bounds.ARGUMENT, scene, sheet -> call.answer(sheet, -1), what + " ahead of the sheet");
    }

    private void askingForValues() {
        bounds.promise(22, "Returns the value of a cell.");
        Desk desk = errors().with("A6", "-3", "J20", "=A6");
        bounds.due("999999999 -999999999 0 -3 -3", desk.value("C1") + " " + desk.value("C2") + " " + desk.value("I9")
            + " " + desk.value("A6") + " " + desk.value("J20"), "value");
        bounds.cells(22, "- `cell`: 0 to 199", CalculatedSheet::value);
        bounds.cells(22, "Throws `IllegalArgumentException` if cell is out of range", CalculatedSheet::value);
        bounds.promise(22, "Throws `IllegalStateException` if it has an error");
        needsValue("value", CalculatedSheet::value);
        bounds.promise(23, "Returns the value of a cell, told by computing it anew from what it refers to, and so on, "
            + "without the values that are known.");
        Desk full = Desk.full("=7");
        bounds.due(7, full.sheet.valueByAsking(0), "through 200 cells");
        full.sheet.setNumber(199, -999999);
        bounds.due(-999999, full.sheet.valueByAsking(0), "through 200 cells, with another number");
        bounds.due("", bounds.busy.changedBy(sheet -> sheet.valueByAsking(1)), "asking changes nothing");
        bounds.promise(23, "Returns the value (the same as that of value).");
        bounds.due("999999999 -999999999 0 -3 -3", desk.sheet.valueByAsking(2) + " " + desk.sheet.valueByAsking(12)
            + " " + desk.sheet.valueByAsking(88) + " " + desk.sheet.valueByAsking(50) + " "
            + desk.sheet.valueByAsking(199), "valueByAsking");
        Desk replaced = new Desk().with("A1", "=1", "B1", "=2");
        bounds.due("1 2", replaced.sheet.valueByAsking(0) + " " + replaced.sheet.valueByAsking(1), "two formulas");
        replaced.with("A1", "5", "B1", "=B1");
        bounds.due("5", Checks.outcome(() -> replaced.sheet.valueByAsking(0)), "a number where a formula was");
        replaced.with("A1", "");
        bounds.due("0", Checks.outcome(() -> replaced.sheet.valueByAsking(0)), "nothing where a formula was");
        CalculatedSheet each = errors().sheet;
        for (int cell = 0; cell < 200; cell++) {
            int one = cell;
            bounds.due(Checks.outcome(() -> each.value(one)), Checks.outcome(() -> each.valueByAsking(one)),
                "the cell " + cell);
        }
        bounds.cells(23, "- `cell`: 0 to 199", CalculatedSheet::valueByAsking);
        bounds.cells(23, "Throws `IllegalArgumentException` if cell is out of range", CalculatedSheet::valueByAsking);
        bounds.promise(23, "Throws `IllegalStateException` if it has an error");
        needsValue("valueByAsking", CalculatedSheet::valueByAsking);
    }

    private interface OfCell {
        boolean is(CalculatedSheet sheet, int cell);
    }

    private void error(int promise, String kind, int row, OfCell call) {
        bounds.promise(promise, "Tells whether a cell has the error " + kind + ".");
        bounds.promise(promise, "Returns whether it has.");
        Desk desk = errors();
        for (int other = 0; other < 5; other++) {
            bounds.due(other == row, call.is(desk.sheet, 10 * other), "the error in " + Desk.name(10 * other));
        }
        desk.sheet.setNumber(190, 0);
        bounds.no(call.is(desk.sheet, 2), "a formula with a value");
        bounds.no(call.is(desk.sheet, 190), "a number");
        bounds.no(call.is(desk.sheet, 199), "an empty cell");
        bounds.due("", bounds.busy.changedBy(sheet -> call.is(sheet, 2)), "asking changes nothing");
        bounds.cells(promise, "- `cell`: 0 to 199", call::is);
        bounds.cells(promise, "Throws `IllegalArgumentException` if cell is out of range", call::is);
        desk.sheet.clear(10 * row);
        bounds.no(call.is(desk.sheet, 10 * row), "a cell that was cleared");
        desk.sheet.undo();
        bounds.yes(call.is(desk.sheet, 10 * row), "when that is undone");
        desk.sheet.setNumber(10 * row, 3);
        bounds.no(call.is(desk.sheet, 10 * row), "a number in its place");
    }

    private void askingForErrors() {
        error(24, "DIVISION", 0, CalculatedSheet::isDivision);
        error(25, "SIZE", 1, CalculatedSheet::isTooGreat);
        error(26, "REFERENCE", 2, CalculatedSheet::isBroken);
        error(27, "VALUES", 3, CalculatedSheet::isWithoutValues);
        error(28, "CYCLE", 4, CalculatedSheet::isCyclic);
    }

    private void formulaTexts() {
        bounds.terms("The text of a formula is as it was entered, with all references as they are now; a broken "
            + "reference, or range, is written \"#REF\".");
        Desk desk = new Desk().with("B2", "=A1+$A1+A$1+$A$1+SUM(A1:$B$2)-0*999999");
        bounds.due("=A1+$A1+A$1+$A$1+SUM(A1:$B$2)-0*999999", desk.formula("B2"), "as it was entered");
        desk.sheet.moveCell(0, 199);
        bounds.due("=J20+$J20+J$20+$J$20+SUM(A1:$B$2)-0*999999", desk.formula("B2"), "as they are now");
        desk.sheet.moveCell(100, 199);
        bounds.due("=#REF+#REF+#REF+#REF+SUM(A1:$B$2)-0*999999", desk.formula("B2"), "broken references");
        desk.sheet.copyBlock(11, 11, 189);
        bounds.due("=#REF+#REF+#REF+#REF+SUM(I18:$B$2)-0*999999", desk.formula("J19"), "broken references stay broken");
        desk.sheet.copyBlock(11, 11, 10);
        bounds.due("=#REF+#REF+#REF+#REF+SUM(#REF)-0*999999", desk.formula("A2"), "a broken range");
        Desk shorter = new Desk().with("A1", "=B1+C1*SUM(D1:E2)", "A1", "=F1");
        bounds.due("=F1 1 5", shorter.formula("A1") + " " + shorter.sheet.references(0) + " "
            + shorter.sheet.referenceAt(0, 0), "nothing is left of the formula that was there before");
        shorter.with("A1", "=-B1", "A1", "=F1");
        bounds.due("=F1 1 0", shorter.formula("A1") + " " + shorter.sheet.references(0) + " "
            + shorter.sheet.dependents(1), "nothing is left of a reference that was there before");
        bounds.promise(29, "Returns how long the text of a formula is.");
        Desk longest = new Desk().with("J20", "=" + "A1+".repeat(19) + "A1");
        bounds.due(60, longest.sheet.formulaLength(199), "a text as long as the pad");
        longest.sheet.moveCell(0, 190);
        bounds.due(80, longest.sheet.formulaLength(199), "it grows with its references");
        longest.sheet.moveCell(5, 190);
        bounds.due(100, longest.sheet.formulaLength(199), "it grows when they break");
        bounds.promise(29, "Returns the number of characters, \"=\" among them; 0 if the cell has no formula.");
        longest.with("A2", "=0", "A3", "123456", "A4", DEEP_BRACKETS);
        bounds.due("2 60", longest.sheet.formulaLength(10) + " " + longest.sheet.formulaLength(30),
            "the shortest one, and a long one");
        bounds.due("0 0", longest.sheet.formulaLength(20) + " " + longest.sheet.formulaLength(40),
            "a number, and nothing");
        bounds.cells(29, "- `cell`: 0 to 199", CalculatedSheet::formulaLength);
        bounds.cells(29, "Throws `IllegalArgumentException` if cell is out of range", CalculatedSheet::formulaLength);
        characters();
    }

    private void characters() {
        bounds.promise(30, "Returns a character of the text of a formula.");
        Desk desk = new Desk().with("A1", "=$B$2<SUM(A3:J20,-1)", "A2", "7");
        bounds.due('=', (char) desk.sheet.formulaCharacter(0, 0), "the first one");
        bounds.due('$', (char) desk.sheet.formulaCharacter(0, 1), "the second one");
        bounds.due(')', (char) desk.sheet.formulaCharacter(0, 19), "the last one");
        bounds.promise(30, "Returns the character; -1 if the text has not so many.");
        for (int place : new int[] {20, 21, 60, Bounds.GREATEST - 1, Bounds.GREATEST}) {
            bounds.due(-1, desk.sheet.formulaCharacter(0, place), "the place " + place);
        }
        for (int cell : new int[] {10, 20, 199}) {
            bounds.due(-1, desk.sheet.formulaCharacter(cell, 0), "no formula in " + Desk.name(cell));
            bounds.due(-1, desk.sheet.formulaCharacter(cell, Bounds.GREATEST), "no formula in " + Desk.name(cell));
        }
        desk.sheet.moveCell(11, 199);
        bounds.due(')', (char) desk.sheet.formulaCharacter(0, 20), "the last one of a text that has grown");
        bounds.due(-1, desk.sheet.formulaCharacter(0, 21), "behind it");
        bounds.cells(30, "- `cell`: 0 to 199", (sheet, cell) -> sheet.formulaCharacter(cell, 0));
        bounds.places(30, "- `place`: 0 or more", (sheet, place) -> sheet.formulaCharacter(1, place));
        bounds.places(30, "Throws `IllegalArgumentException` if cell is out of range, or place is below 0",
            (sheet, place) -> sheet.formulaCharacter(199, place));
        bounds.refusesArgument(sheet -> sheet.formulaCharacter(200, 0), "the cell 200");
        bounds.refusesArgument(sheet -> sheet.formulaCharacter(-1, -1), "a wrong cell and a wrong place");
        bounds.refusesArgument(sheet -> sheet.formulaCharacter(10, -1), "a wrong place where no formula is");
    }
}
