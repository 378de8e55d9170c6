/** The promises one by one: ordinary inputs, the edges that the document names, wrong inputs. */
public final class PromiseTests {
    private static final Checks CHECKS = new Checks();
    private static final int LEAST = Integer.MIN_VALUE;
    private static final int GREATEST = Integer.MAX_VALUE;

    private PromiseTests() {
    }

    public static void main(String[] args) {
        aNewObject();
        thePad();
        contentFaults();
        ordersFaults();
        entering();
        settingAndClearing();
        copying();
        copyingReferences();
        moving();
        insertingRows();
        deletingRows();
        insertingColumns();
        deletingColumns();
        runningOrders();
        snapshots();
        undoing();
        kindsOfCells();
        values();
        valuesOfCalls();
        errors();
        formulaTexts();
        references();
        dependence();
        rings();
        theOrder();
        chains();
        aSheetFullOfFormulas();
        counts();
        computed();
        totals();
        meanAndFind();
        whatWouldBe();
        refusedCallsChangeNothing();
        CHECKS.end();
    }

    private static void due(Object want, Object got, String what) {
        CHECKS.due(want, got, what);
    }

    /** The call must refuse cells that are none, -1 and 200 among them. */
    private interface OfCell {
        Object answer(int cell);
    }

    private static void needsCell(OfCell call, String what) {
        for (int cell : new int[] {-1, 200, LEAST, GREATEST}) {
            CHECKS.refusesArgument(() -> call.answer(cell), what + " with the cell " + cell);
        }
    }

    private static void needsLine(OfCell call, int lines, String what) {
        for (int line : new int[] {-1, lines, LEAST, GREATEST}) {
            CHECKS.refusesArgument(() -> call.answer(line), what + " with " + line);
        }
    }

    private static void aNewObject() {
        CHECKS.about("promise 1");
        CalculatedSheet sheet = new CalculatedSheet();
        due(0, sheet.filled(), "filled");
        due(0, sheet.formulas(), "formulas");
        due(0, sheet.errors(), "errors");
        due(0, sheet.latestComputed(), "latestComputed");
        due(0, sheet.allComputed(), "allComputed");
        due(0, sheet.clearPad(), "the pad's length");
        due(0.0, sheet.meanValue(), "meanValue");
        due(-1, sheet.find(0), "find");
        due(-1, sheet.orderAt(0), "orderAt");
        for (int cell = 0; cell < 200; cell++) {
            CHECKS.yes(sheet.isEmpty(cell), "isEmpty " + cell);
            CHECKS.no(sheet.isFormula(cell), "isFormula " + cell);
            due(0, sheet.value(cell), "value " + cell);
            due(-1, sheet.placeInOrder(cell), "placeInOrder " + cell);
            due(0, sheet.references(cell), "references " + cell);
            due(0, sheet.chain(cell), "chain " + cell);
        }
        CHECKS.refusesState(sheet::undo, "undo");
        CHECKS.refusesState(sheet::goBack, "goBack");
    }

    private static void thePad() {
        CHECKS.about("promise 2");
        CalculatedSheet sheet = new CalculatedSheet();
        for (int character : new int[] {31, 127, -1, LEAST, GREATEST, 65536 + 65}) {
            CHECKS.refusesArgument(() -> sheet.type(character), "type " + character);
        }
        due(1, sheet.type(32), "type 32");
        due(2, sheet.type(126), "type 126");
        for (int length = 3; length <= 60; length++) {
            due(length, sheet.type('1'), "type");
        }
        CHECKS.refusesState(() -> sheet.type('1'), "type onto a full pad");
        CHECKS.refusesArgument(() -> sheet.type(127), "type a wrong character onto a full pad");
        CHECKS.about("promise 3");
        due(60, sheet.clearPad(), "clearPad");
        due(0, sheet.clearPad(), "clearPad again");
        due(1, sheet.type('7'), "type after clearPad");
        due(0, sheet.enter(0), "enter");
        due(7, sheet.value(0), "value");
        due(1, sheet.clearPad(), "enter leaves the pad");
    }

    private static void contentFaults() {
        CHECKS.about("promise 4");
        Desk desk = new Desk();
        String[] whole = {"", "0", "-0", "7", "-7", "999999", "-999999", "=1", "=-1", "=--1", "=A1", "=$J$20", "=J$20",
            "=$A19", "=A1+B2-C3*D4/5", "=1<2", "=(1<2)=(3>4)", "=((((1))))", "=SUM(A1)", "=SUM(A1:B2)",
            "=SUM($A$1:B2,C3,1<2,SUM(J20:A1))", "=MIN(A1:A1)", "=MAX(1,A1:B1)", "=COUNT(A1:J20)", "=ABS(-1)",
            "=ABS(A1<B1)", "=IF(1,2,3)", "=IF(A1<B1,IF(1,2,3),-C1)", "=-(1)", "=1--1", "=0*0", "=A10", "=A20",
            "=C1", "=I1", "=-A1", "=IF(1,SUM(A1:B2,A3:A4),2)"};
        for (String text : whole) {
            due(-1, desk.contentFault(text), text);
        }
        Object[][] broken = {{"+1", 0}, {" ", 0}, {"a", 0}, {"A1", 0}, {"01", 1}, {"-01", 2}, {"-", 1}, {"--1", 1},
            {"1000000", 6}, {"-1000000", 7}, {"1 ", 1}, {"1+1", 1}, {"1;", 1}, {"=", 1}, {"==1", 1}, {"= 1", 1},
            {"=1000000", 7}, {"=00", 2}, {"=01", 2}, {"=1+", 3}, {"=+1", 1}, {"=1+*2", 3}, {"=A", 2}, {"=A0", 2},
            {"=A21", 3}, {"=A35", 3}, {"=A100", 4}, {"=K1", 1}, {"=a1", 1}, {"=$", 2}, {"=$K1", 2}, {"=$A$", 4},
            {"=$$A1", 2}, {"=A$$1", 3}, {"=$ABS(1)", 3}, {"=AB", 3}, {"=AB1", 3}, {"=ABS", 4}, {"=ABS1", 4},
            {"=ABS(1", 6}, {"=ABS(1,2)", 6}, {"=ABS(A1:B2)", 7}, {"=ABS()", 5}, {"=B", 2}, {"=BA", 2}, {"=C", 2},
            {"=CO", 3}, {"=COUNT", 6}, {"=COUNTA", 6}, {"=CA", 2}, {"=I", 2}, {"=IF", 3}, {"=IF(", 4}, {"=IF(1)", 5},
            {"=IF(1,2)", 7}, {"=IF(1,2,3,4)", 9}, {"=IF(A1:B2,1,2)", 6}, {"=IF(1,2,3", 9}, {"=M", 2}, {"=M1", 2},
            {"=MA1", 3}, {"=MIX", 3}, {"=S", 2}, {"=S1", 2}, {"=SUM()", 5}, {"=SUM(1", 6}, {"=SUM(1,)", 7},
            {"=SUM(A1:)", 8}, {"=SUM(A1:B", 9}, {"=SUM(A1:B2", 10}, {"=SUM(A1:B2+1)", 10}, {"=SUM(A1:B2:C3)", 10},
            {"=SUM(A1:5)", 8}, {"=SUM(A1:B2=1)", 10}, {"=SUM(1:2)", 6}, {"=SUM(-A1:B2)", 8}, {"=SUM((A1:B2))", 8},
            {"=SUM(1+A1:B2)", 9}, {"=SUM(A1+B2:C3)", 10}, {"=SUM(A1<B1:C1)", 10}, {"=SUM((1),A1)B1", 12},
            {"=A1:B2", 3}, {"=1<2<3", 4}, {"=1<2=3", 4}, {"=1<=2", 3}, {"=SUM(1<2>3)", 8}, {"=(1<2>3)", 5},
            {"=(1", 3}, {"=()", 2}, {"=(1))", 4}, {"=1)", 2}, {"=1,2", 2}, {"=(1,2)", 3}, {"=1 ", 2}, {"=1(", 2},
            {"=A1B1", 3}, {"=A1(", 3}, {"=A1$", 3}, {"=1A", 2}, {"=#REF", 1}, {"=1;", 2}, {"=A1;", 3}, {"=1-", 3},
            {"=SUM (1)", 4}, {"=sum(1)", 1}, {"=-", 2}, {"=1.5", 2}, {"=A2147483648", 3}, {"=A1%", 3}};
        for (Object[] row : broken) {
            due(row[1], desk.contentFault((String) row[0]), (String) row[0]);
        }
        String full = "=" + "(".repeat(59);
        due(60, desk.contentFault(full), "only opening brackets");
        due(-1, desk.contentFault("=" + "(".repeat(29) + "1" + ")".repeat(29)), "29 brackets");
        due(-1, desk.contentFault("=" + "-".repeat(58) + "1"), "58 signs");
        due(60, desk.contentFault("=" + "-".repeat(59)), "only signs");
        due(60, desk.sheet.clearPad(), "the pad is as it was");
    }

    private static void ordersFaults() {
        CHECKS.about("promise 5");
        Desk desk = new Desk();
        String[] whole = {"", "A1:;", "A1:5;", "J20:-5;", "A1:=B1;B1:2;C1:;", "A1:=SUM(A2:A3);", "A10:0;A1:0;",
            "A1:=1<2;A1:=1<2;"};
        for (String text : whole) {
            due(-1, desk.ordersFault(text), text);
        }
        Object[][] broken = {{"A", 1}, {"A1", 2}, {"A1:", 3}, {"A1:5", 4}, {"A1:=", 4}, {"A1:=A1", 6}, {"K1:;", 0},
            {"a1:;", 0}, {"$A1:;", 0}, {"A$1:;", 1}, {"A0:;", 1}, {"A21:;", 2}, {"A1;", 2}, {"A1:;;", 4}, {";", 0},
            {"A1:5;B", 6}, {"A1:5;B1:=1+;", 11}, {"A1:=SUM(1;", 9}, {"A1:-;", 4}, {"A1: ;", 3}, {"A1:5; ", 5},
            {"5", 0}, {"=A1", 0}, {"A1:1000000;", 9}, {"A1:=1:2;", 5}, {"AA1:;", 1}, {"A1:=A;", 5},
            {"A1:=A1:B1;", 6}};
        for (Object[] row : broken) {
            due(row[1], desk.ordersFault((String) row[0]), (String) row[0]);
        }
        due(-1, desk.ordersFault("A1:;".repeat(15)), "15 orders");
        due(60, desk.sheet.clearPad(), "the pad is as it was");
    }

    private static void entering() {
        CHECKS.about("promise 6");
        Desk desk = new Desk();
        due(0, desk.enter("A1", "5"), "a number");
        due(5, desk.value("A1"), "the number");
        due(1, desk.enter("B1", "=A1+1"), "a formula");
        due(6, desk.value("B1"), "the formula");
        due(1, desk.enter("C1", "=B1*B1"), "a formula of a formula");
        due(2, desk.enter("A1", "-4"), "a number to which two formulas go back");
        due(9, desk.value("C1"), "what depends on it");
        due(3, desk.enter("A1", "=D1"), "a formula with two that depend on it");
        due(3, desk.enter("A1", "=C1"), "a ring");
        due("CYCLE", desk.told("C1"), "a formula in the ring");
        due(2, desk.enter("A1", ""), "the empty content");
        CHECKS.yes(desk.sheet.isEmpty(0), "the empty content makes a cell empty");
        due(1, desk.value("B1"), "an empty cell is 0");
        due(3, desk.enter("A1", "=A1"), "a cell that refers to itself");
        CHECKS.refusesState(() -> desk.enter("A1", "=1+"), "a fault");
        CHECKS.refusesState(() -> desk.enter("A1", "A1:5;"), "orders are no content");
        needsCell(desk.sheet::enter, "enter with a fault");
        desk.write("=A1+7");
        needsCell(desk.sheet::enter, "enter");
        due(1, desk.sheet.enter(55), "the pad stays");
        due(1, desk.sheet.enter(199), "the pad stays and is entered again");
        due("=A1+7", desk.formula("J20"), "the pad was entered twice");
    }

    private static void settingAndClearing() {
        CHECKS.about("promise 7");
        Desk desk = new Desk();
        desk.with("B1", "=A1", "C1", "=B1", "D1", "=E1");
        due(2, desk.sheet.setNumber(0, 999999), "setNumber");
        due(999999, desk.value("C1"), "what depends on it");
        due(2, desk.sheet.setNumber(0, -999999), "setNumber");
        due(-999999, desk.value("C1"), "what depends on it");
        due(1, desk.sheet.setNumber(1, 3), "setNumber in place of a formula");
        CHECKS.no(desk.sheet.isFormula(1), "it is a number then");
        due(0, desk.sheet.setNumber(199, 0), "setNumber on the last cell");
        CHECKS.no(desk.sheet.isEmpty(199), "0 is a number");
        needsCell(cell -> desk.sheet.setNumber(cell, 0), "setNumber");
        for (int number : new int[] {1000000, -1000000, LEAST, GREATEST}) {
            CHECKS.refusesArgument(() -> desk.sheet.setNumber(0, number), "setNumber " + number);
        }
        CHECKS.about("promise 8");
        desk.with("B1", "=A1");
        due(2, desk.sheet.clear(0), "clear");
        due(0, desk.value("C1"), "what depends on it");
        CHECKS.yes(desk.sheet.isEmpty(0), "it is empty");
        due(1, desk.sheet.clear(1), "clear a formula");
        due("", desk.formula("B1"), "its text is gone");
        due(1, desk.sheet.clear(1), "clear an empty cell to which a formula refers");
        due(0, desk.sheet.clear(100), "clear an empty cell");
        needsCell(desk.sheet::clear, "clear");
    }

    private static void copying() {
        CHECKS.about("promise 9");
        Desk desk = new Desk().with("A1", "1", "B1", "2", "A2", "=A1+B1", "C5", "77");
        due(4, desk.sheet.copyBlock(0, 11, 22), "copyBlock");
        due(1, desk.value("C3"), "a number");
        due("=C3+D3", desk.formula("C4"), "a formula");
        due(3, desk.value("C4"), "its value");
        CHECKS.yes(desk.sheet.isEmpty(Desk.at("D4")), "an empty cell");
        due(2, desk.sheet.latestComputed(), "all formulas are computed");
        due(6, desk.sheet.copyBlock(Desk.at("D4"), Desk.at("F5"), Desk.at("A1")), "a block of empty cells");
        due(4, desk.sheet.filled(), "empty cells are copied, too");
        due(1, desk.sheet.copyBlock(199, 199, 199), "onto itself");
        due(200, desk.sheet.copyBlock(0, 199, 0), "the whole sheet");
        Desk over = new Desk().with("A1", "1", "B1", "2", "C1", "3");
        over.sheet.copyBlock(0, 2, 1);
        due("1 1 2 3", over.value("A1") + " " + over.value("B1") + " " + over.value("C1") + " " + over.value("D1"),
            "blocks that overlap to the right");
        over.sheet.copyBlock(1, 3, 0);
        due("1 2 3 3", over.value("A1") + " " + over.value("B1") + " " + over.value("C1") + " " + over.value("D1"),
            "blocks that overlap to the left");
        needsCell(cell -> desk.sheet.copyBlock(cell, 199, 0), "copyBlock first");
        needsCell(cell -> desk.sheet.copyBlock(0, cell, 0), "copyBlock last");
        needsCell(cell -> desk.sheet.copyBlock(0, 0, cell), "copyBlock to");
        CHECKS.refusesArgument(() -> desk.sheet.copyBlock(10, 9, 0), "last is in a row above");
        CHECKS.refusesArgument(() -> desk.sheet.copyBlock(1, 10, 0), "last is in a column to the left");
        CHECKS.refusesArgument(() -> desk.sheet.copyBlock(11, 0, 0), "last is above, to the left");
        CHECKS.refusesArgument(() -> desk.sheet.copyBlock(1, 10, 199), "both apply");
        CHECKS.refusesState(() -> desk.sheet.copyBlock(0, 1, 9), "it would leave to the right");
        CHECKS.refusesState(() -> desk.sheet.copyBlock(0, 10, 190), "it would leave downwards");
        due(2, desk.sheet.copyBlock(0, 1, 198), "the last two cells");
        due(2, desk.sheet.copyBlock(0, 10, 189), "the last column");
    }

    private static void copyingReferences() {
        Desk desk = new Desk().with("C3", "=B2+$B2+B$2+$B$2+SUM(B2:D4,$B$2:D4)");
        desk.sheet.copyBlock(22, 22, Desk.at("D5"));
        due("=C4+$B4+C$2+$B$2+SUM(C4:E6,$B$2:E6)", desk.formula("D5"), "references move along");
        desk.sheet.copyBlock(22, 22, 0);
        due("=#REF+#REF+#REF+$B$2+SUM(#REF,$B$2:B2)", desk.formula("A1"), "references that would leave");
        due("REFERENCE", desk.told("A1"), "the error");
        due("=B2+$B2+B$2+$B$2+SUM(B2:D4,$B$2:D4)", desk.formula("C3"), "the source stays");
        Desk edges = new Desk().with("A1", "=J1+A20+SUM(J1:A1)+SUM(A20:A1)", "B2", "=A1");
        edges.sheet.copyBlock(0, 0, 1);
        due("=#REF+B20+SUM(#REF)+SUM(B20:B1)", edges.formula("B1"), "the last column");
        edges.sheet.copyBlock(0, 0, 10);
        due("=J2+#REF+SUM(J2:A2)+SUM(#REF)", edges.formula("A2"), "the last row");
        edges.sheet.copyBlock(11, 11, 1);
        due("=#REF", edges.formula("B1"), "the first row");
        edges.sheet.copyBlock(11, 11, 10);
        due("=#REF", edges.formula("A2"), "the first column");
        edges.sheet.copyBlock(10, 10, 55);
        due("=#REF", edges.formula("F6"), "a broken reference stays broken");
    }

    private static void moving() {
        CHECKS.about("promise 10");
        Desk desk = new Desk().with("A1", "5", "E1", "=A1+$A$1+C3+SUM(A1:C3,A1)", "C3", "=B2", "D4", "=A$1*$A1");
        due(6, desk.sheet.moveCell(0, 22), "moveCell");
        due("=C3+$C$3+#REF+SUM(A1:C3,C3)", desk.formula("E1"), "references follow, and break");
        due("=C$3*$C3", desk.formula("D4"), "with $ as they were");
        CHECKS.yes(desk.sheet.isEmpty(0), "the cell is empty then");
        due(5, desk.value("C3"), "the content goes there");
        due("REFERENCE", desk.told("E1"), "the broken one");
        due(2, desk.sheet.latestComputed(), "all formulas are computed");
        due(0, desk.sheet.moveCell(55, 56), "an empty cell to where nothing refers");
        due(5, desk.sheet.moveCell(55, 22), "an empty cell to one to which formulas refer");
        CHECKS.yes(desk.sheet.isEmpty(22), "it is empty then");
        due("=#REF*#REF", desk.formula("D4"), "references to the cell as it was break");
        Desk own = new Desk().with("A1", "=A1+B1+B2", "B1", "=A1+B1");
        due(2, own.sheet.moveCell(0, 1), "a formula that refers to itself and to where it goes");
        due("=B1+#REF+B2", own.formula("B1"), "its references");
        due("", own.formula("A1"), "nothing is left");
        needsCell(cell -> desk.sheet.moveCell(cell, 5), "moveCell from");
        needsCell(cell -> desk.sheet.moveCell(5, cell), "moveCell to");
        CHECKS.refusesArgument(() -> desk.sheet.moveCell(7, 7), "moveCell to the same");
        CHECKS.refusesArgument(() -> desk.sheet.moveCell(-1, -1), "moveCell to the same, which is none");
        Desk whole = new Desk().with("A1", "=$B$2+SUM(A1:B2)", "B2", "4");
        due(0, whole.sheet.moveCell(0, 199), "moveCell to the last cell");
        due("=$B$2+SUM(A1:B2)", whole.formula("J20"), "its content is unchanged");
        due(8, whole.value("J20"), "its value");
    }

    private static void insertingRows() {
        CHECKS.about("promise 11");
        Desk desk = new Desk().with("A1", "1", "A2", "2", "A3", "3", "B1", "=A1+$A$2+A3+SUM(A1:A3)+SUM(A3:A2)");
        due(2, desk.sheet.insertRow(1), "insertRow");
        due("=A1+$A$3+A4+SUM(A1:A4)+SUM(A4:A3)", desk.formula("B1"), "references go along");
        CHECKS.yes(desk.sheet.isEmpty(10), "the row is empty");
        due("1 2 3", desk.value("A1") + " " + desk.value("A3") + " " + desk.value("A4"), "cells go down");
        due(17, desk.value("B1"), "the value is the same");
        due(1, desk.sheet.latestComputed(), "all formulas are computed");
        due(4, desk.sheet.insertRow(0), "insertRow 0");
        due("=A2+$A$4+A5+SUM(A2:A5)+SUM(A5:A4)", desk.formula("B2"), "a formula that goes down itself");
        Desk last = new Desk().with("A1", "=A20+A19+SUM(A20:A19)+SUM(A1:$A$20)+SUM(A20:A20)", "A19", "7");
        due(1, last.sheet.insertRow(5), "insertRow");
        due("=#REF+A20+SUM(A20:A20)+SUM(A1:$A$20)+SUM(A20:A20)", last.formula("A1"), "what would leave the sheet");
        CHECKS.refusesState(() -> last.sheet.insertRow(0), "the last row is not empty");
        CHECKS.refusesState(() -> last.sheet.insertRow(19), "the last row is not empty, insertRow 19");
        needsLine(last.sheet::insertRow, 20, "insertRow while the last row is not empty");
        last.sheet.clear(190);
        due(0, last.sheet.insertRow(19), "insertRow 19");
        due("=#REF+#REF+SUM(A20:A20)+SUM(A1:$A$20)+SUM(A20:A20)", last.formula("A1"), "the last row's cells leave");
        Desk right = new Desk().with("J20", "1");
        CHECKS.refusesState(() -> right.sheet.insertRow(3), "the last cell alone");
    }

    private static void deletingRows() {
        CHECKS.about("promise 12");
        Desk desk = new Desk().with("A1", "1", "A2", "2", "B2", "9", "A3", "3", "A4", "4",
            "C1", "=A1+A2+$A$3+SUM(A1:A3)");
        due(2, desk.sheet.deleteRow(1), "deleteRow");
        due("=A1+#REF+$A$2+SUM(A1:A2)", desk.formula("C1"), "references go along, and break");
        due("1 3 4", desk.value("A1") + " " + desk.value("A2") + " " + desk.value("A3"), "cells go up");
        due("REFERENCE", desk.told("C1"), "the error");
        due(1, desk.sheet.latestComputed(), "all formulas are computed");
        Desk corners = new Desk().with("J1", "=SUM(A5:B8)+SUM(A8:B5)+SUM(A5:B5)+SUM(A4:A6)+SUM(A20:$A$19)");
        corners.sheet.deleteRow(4);
        due("=SUM(A5:B7)+SUM(A7:B5)+SUM(#REF)+SUM(A4:A5)+SUM(A19:$A$18)", corners.formula("J1"), "upper corners");
        corners.sheet.deleteRow(6);
        due("=SUM(A5:B6)+SUM(A6:B5)+SUM(#REF)+SUM(A4:A5)+SUM(A18:$A$17)", corners.formula("J1"), "lower corners");
        corners.sheet.deleteRow(17);
        due("=SUM(A5:B6)+SUM(A6:B5)+SUM(#REF)+SUM(A4:A5)+SUM(A17:$A$17)", corners.formula("J1"), "a lower one, first");
        due(1, corners.sheet.deleteRow(0), "the formula goes away");
        due(0, corners.sheet.formulas(), "no formula is left");
        due(0, corners.sheet.latestComputed(), "none is computed");
        Desk last = new Desk().with("A20", "5", "A19", "6", "B1", "=A20");
        due(1, last.sheet.deleteRow(19), "the last row");
        CHECKS.yes(last.sheet.isEmpty(190), "it is empty then");
        due("=#REF", last.formula("B1"), "the reference");
        due(0, last.sheet.deleteRow(5), "an empty row");
        due(6, last.value("A18"), "what was below goes up");
        needsLine(last.sheet::deleteRow, 20, "deleteRow");
    }

    private static void insertingColumns() {
        CHECKS.about("promise 13");
        Desk desk = new Desk().with("A1", "1", "B1", "2", "C1", "3", "A2", "=A1+$B$1+C1+SUM(A1:C1)+SUM(C1:B2)");
        due(2, desk.sheet.insertColumn(1), "insertColumn");
        due("=A1+$C$1+D1+SUM(A1:D1)+SUM(D1:C2)", desk.formula("A2"), "references go along");
        CHECKS.yes(desk.sheet.isEmpty(1), "the column is empty");
        due("1 2 3", desk.value("A1") + " " + desk.value("C1") + " " + desk.value("D1"), "cells go right");
        due(1, desk.sheet.latestComputed(), "all formulas are computed");
        due(4, desk.sheet.insertColumn(0), "insertColumn 0");
        due("=B1+$D$1+E1+SUM(B1:E1)+SUM(E1:D2)", desk.formula("B2"), "a formula that goes right itself");
        Desk last = new Desk().with("A1", "=J1+I1+SUM(J1:I1)+SUM(A2:$J$9)+SUM(J1:J3)", "I1", "7");
        due(1, last.sheet.insertColumn(5), "insertColumn");
        due("=#REF+J1+SUM(J1:J1)+SUM(A2:$J$9)+SUM(J1:J3)", last.formula("A1"), "what would leave the sheet");
        CHECKS.refusesState(() -> last.sheet.insertColumn(0), "the last column is not empty");
        needsLine(last.sheet::insertColumn, 10, "insertColumn while the last column is not empty");
        last.sheet.clear(9);
        due(0, last.sheet.insertColumn(9), "insertColumn 9");
        due("=#REF+#REF+SUM(J1:J1)+SUM(A2:$J$9)+SUM(J1:J3)", last.formula("A1"), "the last column's cells leave");
    }

    private static void deletingColumns() {
        CHECKS.about("promise 14");
        Desk desk = new Desk().with("A1", "1", "B1", "2", "B2", "9", "C1", "3", "D1", "4",
            "A2", "=A1+B1+$C$1+SUM(A1:C1)");
        due(2, desk.sheet.deleteColumn(1), "deleteColumn");
        due("=A1+#REF+$B$1+SUM(A1:B1)", desk.formula("A2"), "references go along, and break");
        due("1 3 4", desk.value("A1") + " " + desk.value("B1") + " " + desk.value("C1"), "cells go left");
        Desk corners = new Desk().with("A1", "=SUM(C5:F8)+SUM(F8:C5)+SUM(C5:C9)+SUM(J1:$I2)");
        corners.sheet.deleteColumn(2);
        due("=SUM(C5:E8)+SUM(E8:C5)+SUM(#REF)+SUM(I1:$H2)", corners.formula("A1"), "corners to the left");
        corners.sheet.deleteColumn(4);
        due("=SUM(C5:D8)+SUM(D8:C5)+SUM(#REF)+SUM(H1:$G2)", corners.formula("A1"), "corners to the right");
        due(1, corners.sheet.deleteColumn(0), "the formula goes away");
        Desk last = new Desk().with("J1", "5", "I1", "6", "A2", "=J1+I1");
        due(1, last.sheet.deleteColumn(9), "the last column");
        CHECKS.yes(last.sheet.isEmpty(9), "it is empty then");
        due("=#REF+I1", last.formula("A2"), "the reference");
        due(0, last.sheet.deleteColumn(4), "an empty column");
        due("=#REF+H1", last.formula("A2"), "the reference goes along");
        needsLine(last.sheet::deleteColumn, 10, "deleteColumn");
    }

    private static void runningOrders() {
        CHECKS.about("promise 15");
        Desk desk = new Desk().with("C1", "=A1+B1", "D1", "5");
        desk.write("A1:5;B1:=A1*2;D1:;A1:6;");
        due(4, desk.sheet.runOrders(), "runOrders");
        due("6 12 18", desk.value("A1") + " " + desk.value("B1") + " " + desk.value("C1"), "one after the other");
        CHECKS.yes(desk.sheet.isEmpty(3), "an empty content");
        due(2, desk.sheet.latestComputed(), "all formulas are computed once");
        due(4, desk.sheet.runOrders(), "the pad does not change");
        due("A1:5;B1:=A1*2;D1:;A1:6;".length(), desk.sheet.clearPad(), "the pad does not change");
        int before = desk.sheet.allComputed();
        due(0, desk.sheet.runOrders(), "no orders");
        due(before + 2, desk.sheet.allComputed(), "no orders compute, too");
        desk.write("J20:1;A1:x;");
        CHECKS.refusesState(desk.sheet::runOrders, "a fault");
        CHECKS.yes(desk.sheet.isEmpty(199), "nothing is carried out then");
        desk.write("=A1");
        CHECKS.refusesState(desk.sheet::runOrders, "a content is no orders");
        Desk many = new Desk().write("A1:1;".repeat(12));
        due(12, many.sheet.runOrders(), "many orders");
        due(0, many.sheet.undo(), "they are one change");
        due(0, many.sheet.filled(), "which is undone");
    }

    private static void snapshots() {
        CHECKS.about("promises 16, 17");
        Desk desk = new Desk();
        CHECKS.refusesState(desk.sheet::goBack, "goBack without a snapshot");
        desk.with("A1", "5", "B1", "=A1", "C1", "=B1");
        due(3, desk.sheet.keep(), "keep");
        String kept = desk.look();
        desk.with("A1", "6", "D1", "=C1", "B1", "");
        due(3, desk.sheet.filled(), "filled");
        desk.write("=7");
        due(3, desk.sheet.goBack(), "goBack");
        due(kept, desk.look(), "everything is as it was");
        due(2, desk.sheet.clearPad(), "but the pad");
        desk.with("A1", "9");
        due(3, desk.sheet.goBack(), "the snapshot stays");
        due(kept, desk.look(), "everything is as it was");
        due(3, desk.sheet.undo(), "goBack is recorded");
        due(9, desk.value("A1"), "what was there before goBack");
        due(3, desk.sheet.keep(), "keep in place of the one before");
        desk.sheet.clear(0);
        desk.sheet.goBack();
        due(9, desk.value("A1"), "the new snapshot");
        due(3, desk.sheet.undo(), "keep is no change");
        due(0, desk.value("A1"), "clear came before");
        Desk empty = new Desk();
        due(0, empty.sheet.keep(), "keep of an empty sheet");
        CHECKS.refusesState(empty.sheet::undo, "keep is not recorded");
        empty.with("A1", "1");
        due(0, empty.sheet.goBack(), "goBack to an empty sheet");
        due(1, empty.sheet.undo(), "undo of goBack");
        due(1, empty.value("A1"), "undo of goBack");
    }

    private static void undoing() {
        CHECKS.about("promise 18");
        Desk desk = new Desk();
        CHECKS.refusesState(desk.sheet::undo, "undo without a record");
        desk.with("A1", "1", "B1", "=A1", "A1", "2", "A1", "3", "A1", "4", "A1", "5");
        due(5, desk.sheet.allComputed(), "allComputed");
        due(3, desk.sheet.undo(), "undo");
        due(4, desk.value("B1"), "the value");
        due(4, desk.sheet.allComputed(), "allComputed as it was then");
        due(2, desk.sheet.undo(), "undo");
        due(1, desk.sheet.undo(), "undo");
        due(0, desk.sheet.undo(), "undo");
        due(1, desk.value("B1"), "four states are recorded");
        CHECKS.refusesState(desk.sheet::undo, "the fifth one is forgotten");
        desk.with("A1", "7");
        due(0, desk.sheet.undo(), "undo after a new change");
        Desk kinds = new Desk().with("A1", "1", "B2", "=A1");
        String before = kinds.look();
        Runnable[] changes = {() -> kinds.enter("A1", "3"), () -> kinds.sheet.setNumber(0, 1),
            () -> kinds.sheet.clear(99), () -> kinds.sheet.copyBlock(0, 0, 5), () -> kinds.sheet.moveCell(0, 5),
            () -> kinds.sheet.insertRow(0), () -> kinds.sheet.deleteRow(9), () -> kinds.sheet.insertColumn(0),
            () -> kinds.sheet.deleteColumn(9), () -> kinds.write("").sheet.runOrders()};
        for (int place = 0; place < changes.length; place++) {
            changes[place].run();
            due(2, kinds.sheet.undo(), "undo of change " + place);
            due(before, kinds.look(), "the state ahead of change " + place);
        }
        kinds.sheet.setNumber(0, 8);
        kinds.sheet.keep();
        kinds.write("=12");
        kinds.sheet.undo();
        due(3, kinds.sheet.clearPad(), "the pad stays");
        kinds.sheet.goBack();
        due(8, kinds.value("A1"), "the snapshot stays");
    }

    private static void kindsOfCells() {
        Desk desk = new Desk().with("A1", "5", "B1", "=A1", "C1", "=1/0", "J20", "=A1");
        CHECKS.about("promise 19");
        due("false false true false", desk.sheet.isEmpty(0) + " " + desk.sheet.isEmpty(1) + " "
            + desk.sheet.isEmpty(50) + " " + desk.sheet.isEmpty(199), "isEmpty");
        needsCell(desk.sheet::isEmpty, "isEmpty");
        CHECKS.about("promise 20");
        due("false true false true", desk.sheet.isFormula(0) + " " + desk.sheet.isFormula(1) + " "
            + desk.sheet.isFormula(50) + " " + desk.sheet.isFormula(199), "isFormula");
        needsCell(desk.sheet::isFormula, "isFormula");
        CHECKS.about("promise 21");
        due("true true false true", desk.sheet.hasValue(0) + " " + desk.sheet.hasValue(1) + " "
            + desk.sheet.hasValue(2) + " " + desk.sheet.hasValue(50), "hasValue");
        needsCell(desk.sheet::hasValue, "hasValue");
    }

    private static void values() {
        CHECKS.about("promises 22, 23");
        Desk desk = new Desk().with("A1", "7", "A2", "-7", "A3", "2", "B1", "=A1*A2", "B2", "=B1+A3", "C1", "=1/0",
            "C2", "=C1", "C3", "=C3");
        Object[][] rows = {{"=A1", 7}, {"=H9", 0}, {"=1+2*3", 7}, {"=(1+2)*3", 9},
            {"=7/2", 3}, {"=-7/2", -4}, {"=7/-2", -4}, {"=-7/-2", 3}, {"=6/-2", -3}, {"=10-3-2", 5}, {"=100/10/5", 2},
            {"=2*3/4", 1}, {"=3/4*2", 0}, {"=1<2", 1}, {"=2<1", 0}, {"=2>1", 1}, {"=1>2", 0}, {"=1=1", 1}, {"=1=2", 0},
            {"=1<1", 0}, {"=1>1", 0}, {"=1+1=2", 1}, {"=(1=1)+(2=2)", 2}, {"=--5", 5}, {"=---5", -5}, {"=-(2-5)", 3},
            {"=2--3", 5}, {"=2*-3", -6}, {"=A1+A2", 0}, {"=B2", -47}, {"=-A2*A3", 14}, {"=999999*1000", 999999000},
            {"=-999999*1000-999", -999999999}, {"=999999*1000+999", 999999999}, {"=0/5", 0}, {"=1-2-3<4*5", 1},
            {"=5-1/2", 5}, {"=-1/3", -1}};
        for (Object[] row : rows) {
            due(row[1], desk.valueOf((String) row[0]), (String) row[0]);
            due(row[1], desk.sheet.valueByAsking(199), (String) row[0] + " by asking");
        }
        for (String name : new String[] {"C1", "C2", "C3"}) {
            CHECKS.refusesState(() -> desk.value(name), "value of an error");
            CHECKS.refusesState(() -> desk.sheet.valueByAsking(Desk.at(name)), "valueByAsking of an error");
        }
        due(-47, desk.sheet.valueByAsking(Desk.at("B2")), "valueByAsking of a formula of formulas");
        due(0, desk.sheet.valueByAsking(150), "valueByAsking of an empty cell");
        due(7, desk.sheet.valueByAsking(0), "valueByAsking of a number");
        String before = desk.look();
        desk.sheet.valueByAsking(Desk.at("B2"));
        due(before, desk.look(), "asking changes nothing");
        needsCell(desk.sheet::value, "value");
        needsCell(desk.sheet::valueByAsking, "valueByAsking");
    }

    private static void valuesOfCalls() {
        Desk desk = new Desk().with("A1", "7", "B1", "-3", "A2", "=1/0", "C1", "=D1", "A5", "0");
        Object[][] rows = {{"=SUM(A1:B1)", 4}, {"=SUM(B1:A1)", 4}, {"=SUM(A1:J1)", 4}, {"=SUM(H1:H9)", 0},
            {"=SUM(1,2,3)", 6}, {"=SUM(A1,A1:A1,A1)", 21}, {"=MIN(A1:B1)", -3}, {"=MAX(A1:B1)", 7},
            {"=MIN(H1:H9,5)", 5}, {"=MAX(H1:H9,-5)", -5}, {"=MIN(H1)", 0}, {"=MAX(A1:B1,8)", 8}, {"=MIN(A5:A9)", 0},
            {"=COUNT(A1:B2)", 3}, {"=COUNT(A2:A2)", 1}, {"=COUNT(H1:H9)", 0}, {"=COUNT(H1)", 1}, {"=COUNT(1,2,A1:B2)", 5},
            {"=COUNT(C1:C1)", 1}, {"=ABS(B1)", 3}, {"=ABS(A1)", 7}, {"=ABS(3-5<0)", 1}, {"=IF(1,2,3)", 2},
            {"=IF(0,2,3)", 3}, {"=IF(-1,2,3)", 2}, {"=IF(0,1/0,4)", 4}, {"=IF(1,4,1/0)", 4}, {"=IF(A1>B1,A1,A2)", 7},
            {"=IF(0,SUM(A2:A2,IF(1,2,3)),9)+1", 10}, {"=IF(1,9,SUM(A2:A2,IF(1,2,3)))+1", 10},
            {"=IF(0,(1/0),IF(1,5,A2))*2", 10}, {"=SUM(IF(1,2,3),MAX(1,2))", 4}, {"=SUM(1<2,2<1)", 1},
            {"=MAX(-5,-6)", -5}, {"=SUM(A1:B1)*SUM(A1:B1)", 16}, {"=-SUM(A1,1)", -8}, {"=MIN(2,1,3)", 1}};
        for (Object[] row : rows) {
            due(row[1], desk.valueOf((String) row[0]), (String) row[0]);
            due(row[1], desk.sheet.valueByAsking(199), (String) row[0] + " by asking");
        }
    }

    private static void errors() {
        CHECKS.about("promises 24 to 28");
        Desk desk = new Desk().with("A1", "=1/0", "A2", "=999999*999999", "A3", "=MIN(H1:H9)", "A4", "=A4", "A5", "5",
            "A7", "=A6+1", "B5", "600000", "C5", "=B5*1000", "C7", "=-B5*1000");
        desk.sheet.deleteRow(5);
        due("=#REF+1", desk.formula("A6"), "a broken formula");
        Object[][] rows = {{"=1/0", "DIVISION"}, {"=0/0", "DIVISION"}, {"=5/(A5-5)", "DIVISION"}, {"=A1", "DIVISION"},
            {"=A1+A2", "DIVISION"}, {"=A2+A1", "SIZE"}, {"=A3*A1", "VALUES"}, {"=A6/0", "REFERENCE"},
            {"=1/0+A6", "DIVISION"}, {"=A4+A1", "CYCLE"}, {"=A1+A4", "CYCLE"}, {"=IF(0,A4,1)", "CYCLE"},
            {"=COUNT(A4:A4)", "CYCLE"}, {"=COUNT(A1)", "DIVISION"}, {"=COUNT(A1:A1,A2)", "SIZE"},
            {"=SUM(A1:A3)", "DIVISION"}, {"=SUM(A3:A1)", "DIVISION"}, {"=SUM(A3,A1)", "VALUES"},
            {"=MAX(A2:A3)", "SIZE"}, {"=MAX(H1:H9)", "VALUES"}, {"=MIN(H1:H9,I1:I9)", "VALUES"},
            {"=MIN(H1:H9)/0", "VALUES"}, {"=C5+B5*1000", "SIZE"}, {"=C5+C5", "SIZE"}, {"=-B5*1000-B5*1000", "SIZE"},
            {"=SUM(C5,C5,-B5*1000)", "SIZE"}, {"=SUM(C5,-B5*1000,C5)", "600000000"}, {"=SUM(C5:C5,C5:C5)", "SIZE"},
            {"=999999*1000+1000", "SIZE"}, {"=999999*1000+999", "999999999"}, {"=-999999*1000-1000", "SIZE"},
            {"=IF(A1,1,2)", "DIVISION"}, {"=IF(1,A1,2)", "DIVISION"}, {"=IF(0,2,A1)", "DIVISION"}, {"=ABS(A1)", "DIVISION"},
            {"=-A1", "DIVISION"}, {"=A1<1", "DIVISION"}, {"=1<A1", "DIVISION"}, {"=(A2)+A1", "SIZE"},
            {"=SUM(1,1/0,A2)", "DIVISION"}, {"=COUNT(1/0)", "DIVISION"}, {"=IF(1/0,A2,A2)", "DIVISION"},
            {"=SUM(C6:C6,-C5)", "SIZE"}, {"=999999*999999/0", "SIZE"}, {"=999999*999999*0", "SIZE"},
            {"=0*A2", "SIZE"}, {"=1/A1", "DIVISION"}, {"=A2/0", "SIZE"}, {"=A2-A2", "SIZE"}};
        for (Object[] row : rows) {
            desk.enter("J20", (String) row[0]);
            due(row[1], desk.told("J20"), (String) row[0]);
        }
        Desk broken = new Desk().with("A1", "1", "B1", "=COUNT(A1:A1)", "C1", "=SUM(1,A1:A1)", "D1", "=MIN(A1:A1)");
        broken.sheet.deleteColumn(0);
        due("REFERENCE REFERENCE REFERENCE", broken.told("A1") + " " + broken.told("B1") + " " + broken.told("C1"),
            "a broken range");
        due("0", desk.told("E9"), "an empty cell has no error");
        due("5", desk.told("A5"), "a number has no error");
        needsCell(desk.sheet::isDivision, "isDivision");
        needsCell(desk.sheet::isTooGreat, "isTooGreat");
        needsCell(desk.sheet::isBroken, "isBroken");
        needsCell(desk.sheet::isWithoutValues, "isWithoutValues");
        needsCell(desk.sheet::isCyclic, "isCyclic");
    }

    private static void formulaTexts() {
        CHECKS.about("promises 29, 30");
        String[] texts = {"=1", "=-0", "=A1", "=$J$20", "=A$1+$A1", "=(A1)", "=((1)+(2))", "=IF(A1<B1,-1,MAX(A1:$B$2))",
            "=SUM(MIN(1,2),MAX(A1:B2),COUNT(J20:A1,$J20:J$20),ABS(-9))", "=1<2", "=1>2", "=1=2", "=--1*-2/3",
            "=" + "(".repeat(29) + "1" + ")".repeat(29), "=" + "-".repeat(58) + "1", "=1" + "+1".repeat(29)};
        Desk desk = new Desk();
        for (String text : texts) {
            desk.enter("C3", text);
            due(text, desk.formula("C3"), "the text");
            due(text.length(), desk.sheet.formulaLength(22), "its length");
            due(-1, desk.sheet.formulaCharacter(22, text.length()), "behind the text");
            due(-1, desk.sheet.formulaCharacter(22, GREATEST), "far behind the text");
        }
        desk.with("A1", "12");
        due(0, desk.sheet.formulaLength(0), "the length of a number");
        due(-1, desk.sheet.formulaCharacter(0, 0), "a character of a number");
        due(0, desk.sheet.formulaLength(7), "the length of an empty cell");
        desk.with("A1", "=" + "A9+".repeat(19) + "9");
        desk.sheet.insertRow(1);
        due("=" + "A10+".repeat(19) + "9", desk.formula("A1"), "a text may grow beyond the pad");
        needsCell(desk.sheet::formulaLength, "formulaLength");
        needsCell(cell -> desk.sheet.formulaCharacter(cell, 0), "formulaCharacter");
        CHECKS.refusesArgument(() -> desk.sheet.formulaCharacter(0, -1), "place -1");
        CHECKS.refusesArgument(() -> desk.sheet.formulaCharacter(0, LEAST), "the least place");
    }

    private static void references() {
        CHECKS.about("promises 31, 32");
        Desk desk = new Desk().with("A1", "5", "J20", "=B2+A1+$B$2+SUM(B3:A2)+IF(1,2,C9)");
        int[] due = {0, 10, 11, 20, 21, 82};
        due(due.length, desk.sheet.references(199), "references");
        for (int place = 0; place < due.length; place++) {
            due(due[place], desk.sheet.referenceAt(199, place), "referenceAt " + place);
        }
        due(-1, desk.sheet.referenceAt(199, due.length), "behind the last one");
        due(-1, desk.sheet.referenceAt(199, GREATEST), "far behind the last one");
        due(0, desk.sheet.references(0), "of a number");
        due(-1, desk.sheet.referenceAt(0, 0), "of a number");
        due(0, desk.sheet.references(5), "of an empty cell");
        desk.with("C3", "=C3+1");
        due(1, desk.sheet.references(22), "of a cell that refers to itself");
        due(22, desk.sheet.referenceAt(22, 0), "itself");
        desk.with("C3", "=COUNT(A1:J20)");
        due(200, desk.sheet.references(22), "of a formula that refers to all");
        due(199, desk.sheet.referenceAt(22, 199), "the last of all");
        desk.with("C3", "=A2+1");
        desk.sheet.deleteRow(1);
        due(0, desk.sheet.references(12), "of a broken formula");
        needsCell(desk.sheet::references, "references");
        needsCell(cell -> desk.sheet.referenceAt(cell, 0), "referenceAt");
        CHECKS.refusesArgument(() -> desk.sheet.referenceAt(0, -1), "place -1");
    }

    private static void dependence() {
        CHECKS.about("promises 33 to 35");
        Desk desk = new Desk().with("B1", "=A1", "C1", "=A1+B1", "D1", "=SUM(C1:C9)", "E1", "=IF(1,2,D1)", "F1", "3");
        due("2 1 1 1 0", desk.sheet.dependents(0) + " " + desk.sheet.dependents(1) + " " + desk.sheet.dependents(2) + " "
            + desk.sheet.dependents(3) + " " + desk.sheet.dependents(4), "dependents");
        due(1, desk.sheet.dependents(Desk.at("C9")), "dependents of a range's cell");
        due("4 3 2 1 0 0", desk.sheet.allDependents(0) + " " + desk.sheet.allDependents(1) + " "
            + desk.sheet.allDependents(2) + " " + desk.sheet.allDependents(3) + " " + desk.sheet.allDependents(4) + " "
            + desk.sheet.allDependents(5), "allDependents");
        CHECKS.yes(desk.sheet.dependsOn(4, 0), "E1 on A1");
        CHECKS.yes(desk.sheet.dependsOn(1, 0), "B1 on A1");
        CHECKS.no(desk.sheet.dependsOn(0, 4), "A1 on E1");
        CHECKS.no(desk.sheet.dependsOn(0, 0), "A1 on itself");
        CHECKS.no(desk.sheet.dependsOn(1, 1), "B1 on itself");
        CHECKS.no(desk.sheet.dependsOn(5, 0), "a number on A1");
        desk.with("A1", "=A1");
        due(3, desk.sheet.dependents(0), "dependents of a cell that refers to itself");
        due(5, desk.sheet.allDependents(0), "allDependents of a ring");
        CHECKS.yes(desk.sheet.dependsOn(0, 0), "a ring on itself");
        needsCell(desk.sheet::dependents, "dependents");
        needsCell(desk.sheet::allDependents, "allDependents");
        needsCell(cell -> desk.sheet.dependsOn(cell, 0), "dependsOn");
        needsCell(cell -> desk.sheet.dependsOn(0, cell), "dependsOn another one");
    }

    private static void rings() {
        CHECKS.about("promise 36");
        Desk desk = new Desk().with("A1", "=B1", "B1", "=C1", "C1", "=A1", "D1", "=A1+1/0", "E1", "=E1", "F1", "=G1");
        for (String name : new String[] {"A1", "B1", "C1", "E1"}) {
            CHECKS.yes(desk.sheet.isRing(Desk.at(name)), name + " is a ring");
            due("CYCLE", desk.told(name), name);
        }
        for (String name : new String[] {"D1", "F1", "G1", "J20"}) {
            CHECKS.no(desk.sheet.isRing(Desk.at(name)), name + " is no ring");
        }
        due("CYCLE", desk.told("D1"), "what depends on a ring");
        due(3, desk.enter("B1", "5"), "the ring is cut");
        due("5 5 DIVISION", desk.told("A1") + " " + desk.told("C1") + " " + desk.told("D1"), "the ring is cut");
        needsCell(desk.sheet::isRing, "isRing");
        Desk two = new Desk().with("A1", "=IF(0,B1,1)", "B1", "=A1");
        due("CYCLE CYCLE", two.told("A1") + " " + two.told("B1"), "a part of IF that is not computed counts");
        two.with("A1", "=SUM(A2:C1)");
        CHECKS.yes(two.sheet.isRing(0), "a range with its own cell");
    }

    private static void theOrder() {
        CHECKS.about("promises 37, 38");
        Desk desk = new Desk().with("A1", "=J1", "B1", "=2", "J1", "=B1", "C1", "=A1", "D1", "=D1", "E1", "=D1", "A2", "9",
            "A20", "=1");
        int[] due = {1, 9, 0, 2, 190};
        for (int place = 0; place < due.length; place++) {
            due(due[place], desk.sheet.orderAt(place), "orderAt " + place);
            due(place, desk.sheet.placeInOrder(due[place]), "placeInOrder " + due[place]);
        }
        due(-1, desk.sheet.orderAt(due.length), "behind the last one");
        due(-1, desk.sheet.orderAt(GREATEST), "far behind the last one");
        due("-1 -1 -1 -1", desk.sheet.placeInOrder(3) + " " + desk.sheet.placeInOrder(4) + " "
            + desk.sheet.placeInOrder(10) + " " + desk.sheet.placeInOrder(50), "no place");
        needsCell(desk.sheet::placeInOrder, "placeInOrder");
        CHECKS.refusesArgument(() -> desk.sheet.orderAt(-1), "orderAt -1");
        CHECKS.refusesArgument(() -> desk.sheet.orderAt(LEAST), "orderAt the least number");
    }

    private static void chains() {
        CHECKS.about("promise 39");
        Desk desk = new Desk().with("A1", "5", "B1", "=A1", "C1", "=B1", "D1", "=B1+C1", "E1", "=SUM(A1:D1)", "F1", "=1",
            "G1", "=G1", "H1", "=G1+E1");
        due("0 1 2 3 4 1", desk.sheet.chain(0) + " " + desk.sheet.chain(1) + " " + desk.sheet.chain(2) + " "
            + desk.sheet.chain(3) + " " + desk.sheet.chain(4) + " " + desk.sheet.chain(5), "chain");
        due(0, desk.sheet.chain(150), "the chain of an empty cell");
        CHECKS.refusesState(() -> desk.sheet.chain(6), "the chain of a ring");
        CHECKS.refusesState(() -> desk.sheet.chain(7), "the chain of what depends on a ring");
        needsCell(desk.sheet::chain, "chain");
        Desk longest = new Desk().with("A1", "=B1");
        longest.sheet.copyBlock(0, 0, 1);
        longest.sheet.copyBlock(0, 1, 2);
        longest.sheet.copyBlock(0, 3, 4);
        due(8, longest.sheet.chain(0), "a chain to the right");
        longest.with("H1", "=A2");
        longest.sheet.copyBlock(0, 7, 10);
        longest.sheet.copyBlock(0, 17, 20);
        longest.sheet.copyBlock(0, 37, 40);
        longest.sheet.copyBlock(0, 77, 80);
        longest.sheet.copyBlock(0, 37, 160);
        due(160, longest.sheet.chain(0), "a chain through the sheet");
        due("REFERENCE", longest.told("A1"), "the error of its beginning, which refers to a row 21");
    }

    private static void aSheetFullOfFormulas() {
        CHECKS.about("a sheet full of formulas");
        Desk desk = Desk.full("=7");
        due(200, desk.enter("J20", "=7"), "enter");
        due(200, desk.sheet.formulas(), "formulas");
        due(200, desk.sheet.chain(0), "chain");
        due(7, desk.value("A1"), "value");
        due(7, desk.sheet.valueByAsking(0), "valueByAsking");
        due(199, desk.sheet.allDependents(199), "allDependents");
        due(199, desk.sheet.orderAt(0), "the first one in the order");
        due(0, desk.sheet.orderAt(199), "the last one in the order");
        due(-1, desk.sheet.orderAt(200), "behind the order");
        due(50, desk.sheet.numberFor(199, 0, 50), "numberFor");
        due(199, desk.sheet.setNumber(199, 3), "setNumber");
        due(600L, desk.sheet.rowTotal(0) * 20, "rowTotal");
        due(200, desk.enter("J20", "=A1"), "a ring through the sheet");
        due(200, desk.sheet.errors(), "errors");
        CHECKS.yes(desk.sheet.isRing(77), "isRing");
        due(-1, desk.sheet.orderAt(0), "no order");
        due(0, desk.sheet.errorsWithout(77), "errorsWithout");
        desk.with("A1", "=COUNT(A1:J20)");
        desk.sheet.copyBlock(0, 0, 199);
        due("=COUNT(#REF)", desk.formula("J20"), "a copy whose corner leaves");
    }

    private static void counts() {
        CHECKS.about("promises 40 to 42");
        Desk desk = new Desk().with("A1", "0", "B1", "=A1", "C1", "=1/0", "D1", "=C1", "E1", "=E1", "J20", "7");
        due(6, desk.sheet.filled(), "filled");
        due(4, desk.sheet.formulas(), "formulas");
        due(3, desk.sheet.errors(), "errors");
        desk.with("C1", "");
        due(5, desk.sheet.filled(), "filled");
        due(3, desk.sheet.formulas(), "formulas");
        due(1, desk.sheet.errors(), "errors");
        desk.sheet.copyBlock(0, 0, 1);
        due(2, desk.sheet.formulas(), "formulas after copyBlock");
        desk.sheet.undo();
        due(3, desk.sheet.formulas(), "formulas after undo");
    }

    private static void computed() {
        CHECKS.about("promises 43, 44");
        Desk desk = new Desk().with("A1", "1", "B1", "=A1", "C1", "=B1", "D1", "=D1");
        due(1, desk.sheet.latestComputed(), "latestComputed");
        due(3, desk.sheet.allComputed(), "allComputed");
        desk.sheet.setNumber(0, 4);
        due("2 5", desk.sheet.latestComputed() + " " + desk.sheet.allComputed(), "setNumber");
        desk.sheet.setNumber(50, 4);
        due("0 5", desk.sheet.latestComputed() + " " + desk.sheet.allComputed(), "setNumber where nothing depends");
        desk.sheet.keep();
        desk.sheet.insertRow(1);
        due("3 8", desk.sheet.latestComputed() + " " + desk.sheet.allComputed(), "insertRow computes all, the ring too");
        desk.sheet.goBack();
        due("0 5", desk.sheet.latestComputed() + " " + desk.sheet.allComputed(), "goBack");
        desk.sheet.undo();
        due("3 8", desk.sheet.latestComputed() + " " + desk.sheet.allComputed(), "undo");
        desk.sheet.valueIf(0, 3, 2);
        desk.sheet.numberFor(0, 2, 3);
        desk.sheet.errorsWithout(0);
        desk.sheet.valueByAsking(2);
        due("3 8", desk.sheet.latestComputed() + " " + desk.sheet.allComputed(), "questions are not counted");
        int before = desk.sheet.allComputed();
        desk.sheet.deleteRow(10);
        desk.sheet.insertColumn(9);
        desk.sheet.deleteColumn(9);
        desk.sheet.moveCell(100, 101);
        desk.sheet.copyBlock(100, 101, 110);
        due(before + 15, desk.sheet.allComputed(), "five changes that compute all");
        due(3, desk.sheet.latestComputed(), "the latest one");
    }

    private static void totals() {
        Desk desk = new Desk().with("A1", "5", "A2", "=A1*2", "A3", "=1/0", "A20", "-1", "B1", "=A1", "J1", "=A3", "J20", "3");
        CHECKS.about("promise 45");
        due("14 5 0 3", desk.sheet.columnTotal(0) + " " + desk.sheet.columnTotal(1) + " " + desk.sheet.columnTotal(2) + " "
            + desk.sheet.columnTotal(9), "columnTotal");
        needsLine(desk.sheet::columnTotal, 10, "columnTotal");
        CHECKS.about("promise 46");
        due("10 10 0 2", desk.sheet.rowTotal(0) + " " + desk.sheet.rowTotal(1) + " " + desk.sheet.rowTotal(2) + " "
            + desk.sheet.rowTotal(19), "rowTotal");
        needsLine(desk.sheet::rowTotal, 20, "rowTotal");
        Desk great = new Desk().with("A1", "=999999*1000", "B1", "=A1", "C1", "=A1", "A2", "=A1", "A3", "=A1");
        due(2999997000L, great.sheet.rowTotal(0), "a total beyond an int");
        due(2999997000L, great.sheet.columnTotal(0), "a total beyond an int");
    }

    private static void meanAndFind() {
        CHECKS.about("promise 47");
        Desk desk = new Desk().with("A1", "5", "B1", "=1/0", "C1", "2", "D1", "=F9");
        due(7.0 / 3.0, desk.sheet.meanValue(), "meanValue");
        desk.with("A1", "", "C1", "", "D1", "");
        due(0.0, desk.sheet.meanValue(), "only errors");
        desk.with("A1", "-1", "A2", "0");
        due(-0.5, desk.sheet.meanValue(), "meanValue below 0");
        CHECKS.about("promise 48");
        desk.with("J20", "7", "J19", "=7", "A2", "");
        due(189, desk.sheet.find(7), "find the lowest");
        due(0, desk.sheet.find(-1), "find the first");
        due(-1, desk.sheet.find(0), "neither empty cells nor errors are found");
        desk.with("C1", "0");
        due(2, desk.sheet.find(0), "a cell with 0 is found");
        due(-1, desk.sheet.find(LEAST), "find the least number");
        due(-1, desk.sheet.find(GREATEST), "find the greatest number");
    }

    private static void whatWouldBe() {
        CHECKS.about("promise 49");
        Desk desk = new Desk().with("A1", "5", "B1", "=A1*2", "C1", "=B1+A1", "D1", "=10/A1", "E1", "=F1", "F1", "=E1",
            "G1", "=MIN(H5:H6)", "A2", "=B1-7");
        String before = desk.look();
        due(21, desk.sheet.valueIf(0, 7, 2), "valueIf through formulas");
        due(7, desk.sheet.valueIf(0, 7, 0), "valueIf of the cell itself");
        due(3, desk.sheet.valueIf(1, -2, 2), "valueIf in place of a formula");
        due(15, desk.sheet.valueIf(99, 1, 2), "valueIf of a cell that does not depend on it");
        due(8, desk.sheet.valueIf(5, 8, 4), "valueIf that cuts a ring");
        due(6, desk.sheet.valueIf(Desk.at("H6"), 6, 6), "valueIf in an empty cell");
        due(0, desk.sheet.valueIf(0, 1, 199), "valueIf of an empty cell");
        due(-999999, desk.sheet.valueIf(0, -999999, 0), "valueIf with the least number");
        CHECKS.refusesState(() -> desk.sheet.valueIf(0, 0, 3), "it would have an error");
        CHECKS.refusesState(() -> desk.sheet.valueIf(0, 1, 4), "it has an error all the same");
        needsCell(cell -> desk.sheet.valueIf(cell, 0, 0), "valueIf");
        needsCell(cell -> desk.sheet.valueIf(0, 0, cell), "valueIf asked");
        for (int number : new int[] {1000000, -1000000, LEAST, GREATEST}) {
            CHECKS.refusesArgument(() -> desk.sheet.valueIf(0, number, 3), "valueIf " + number);
        }
        CHECKS.refusesArgument(() -> desk.sheet.valueIf(-1, 0, 4), "both apply");
        CHECKS.about("promise 50");
        due(4, desk.sheet.numberFor(0, 2, 12), "numberFor");
        due(0, desk.sheet.numberFor(0, 2, 0), "numberFor 0");
        due(50, desk.sheet.numberFor(0, 2, 150), "numberFor at the end");
        due(-1, desk.sheet.numberFor(0, 2, 153), "numberFor beyond the end");
        due(-1, desk.sheet.numberFor(0, 2, -3), "numberFor ahead of 0");
        due(4, desk.sheet.numberFor(0, 3, 2), "numberFor passes over errors, and takes the least");
        due(11, desk.sheet.numberFor(0, 3, 0), "numberFor takes the least");
        due(9, desk.sheet.numberFor(0, 0, 9), "numberFor of the cell itself");
        due(-1, desk.sheet.numberFor(0, 0, 51), "numberFor of the cell itself beyond the end");
        due(0, desk.sheet.numberFor(99, 2, 15), "numberFor where nothing depends on it");
        due(-1, desk.sheet.numberFor(0, 4, 0), "numberFor of a ring");
        due(3, desk.sheet.numberFor(4, 5, 3), "numberFor that cuts a ring");
        due(-1, desk.sheet.numberFor(0, 2, LEAST), "numberFor the least number");
        due(-1, desk.sheet.numberFor(0, 2, GREATEST), "numberFor the greatest number");
        due(0, desk.sheet.numberFor(10, 199, 0), "numberFor of an empty cell");
        needsCell(cell -> desk.sheet.numberFor(cell, 0, 0), "numberFor");
        needsCell(cell -> desk.sheet.numberFor(0, cell, 0), "numberFor asked");
        CHECKS.about("promise 51");
        due(4, desk.sheet.errorsWithout(0), "errorsWithout a divisor");
        due(1, desk.sheet.errorsWithout(4), "errorsWithout a ring's cell");
        due(2, desk.sheet.errorsWithout(6), "errorsWithout a cell with an error");
        due(3, desk.sheet.errorsWithout(1), "errorsWithout a formula");
        due(3, desk.sheet.errorsWithout(199), "errorsWithout an empty cell");
        due(0, new Desk().sheet.errorsWithout(0), "errorsWithout in an empty sheet");
        needsCell(desk.sheet::errorsWithout, "errorsWithout");
        due(before, desk.look(), "questions change nothing");
    }

    /** A desk with formulas, errors, a ring, records, a snapshot; its last line is not empty. */
    private static Desk busy(String pad) {
        Desk desk = new Desk().with("A1", "5", "B1", "=A1*2", "C1", "=1/0", "D1", "=D1", "J20", "=A1");
        desk.sheet.keep();
        return desk.with("A2", "=SUM(A1:B1)").write(pad);
    }

    private interface Refused {
        Object call(CalculatedSheet sheet);
    }

    private static void leavesAll(String pad, String what, Refused refused) {
        Desk desk = busy(pad);
        String thrown = Checks.outcome(() -> refused.call(desk.sheet));
        CHECKS.yes(thrown.startsWith("java.lang.Illegal"), what + " throws");
        due(busy(pad).lookAtAll(), desk.lookAtAll(), what + " changes nothing");
    }

    private static void refusedCallsChangeNothing() {
        CHECKS.about("calls that throw");
        String whole = "=A1+1";
        leavesAll(whole, "type", sheet -> sheet.type(127));
        leavesAll("1".repeat(60), "type onto a full pad", sheet -> sheet.type('1'));
        leavesAll(whole, "enter", sheet -> sheet.enter(200));
        leavesAll("=A1+", "enter with a fault", sheet -> sheet.enter(0));
        leavesAll(whole, "setNumber", sheet -> sheet.setNumber(200, 1));
        leavesAll(whole, "setNumber with a wrong number", sheet -> sheet.setNumber(0, 1000000));
        leavesAll(whole, "clear", sheet -> sheet.clear(-1));
        leavesAll(whole, "copyBlock", sheet -> sheet.copyBlock(1, 0, 5));
        leavesAll(whole, "copyBlock beyond the sheet", sheet -> sheet.copyBlock(0, 11, 199));
        leavesAll(whole, "moveCell", sheet -> sheet.moveCell(0, 0));
        leavesAll(whole, "insertRow", sheet -> sheet.insertRow(20));
        leavesAll(whole, "insertRow with a full last row", sheet -> sheet.insertRow(0));
        leavesAll(whole, "deleteRow", sheet -> sheet.deleteRow(20));
        leavesAll(whole, "insertColumn", sheet -> sheet.insertColumn(10));
        leavesAll(whole, "insertColumn with a full last column", sheet -> sheet.insertColumn(0));
        leavesAll(whole, "deleteColumn", sheet -> sheet.deleteColumn(10));
        leavesAll("A1:5;B1:=", "runOrders", sheet -> sheet.runOrders());
        leavesAll(whole, "value", sheet -> sheet.value(2));
        leavesAll(whole, "valueByAsking", sheet -> sheet.valueByAsking(3));
        leavesAll(whole, "chain", sheet -> sheet.chain(3));
        leavesAll(whole, "valueIf", sheet -> sheet.valueIf(0, 1, 2));
        leavesAll(whole, "numberFor", sheet -> sheet.numberFor(200, 1, 2));
        leavesAll(whole, "formulaCharacter", sheet -> sheet.formulaCharacter(1, -1));
        Desk desk = new Desk().with("A1", "5").write("7");
        CHECKS.refusesState(desk.sheet::goBack, "goBack");
        due(1, desk.sheet.clearPad(), "goBack that throws leaves the pad");
        due(0, desk.sheet.undo(), "goBack that throws is not recorded");
        CHECKS.refusesState(desk.sheet::undo, "undo");
        due(0, desk.sheet.filled(), "undo that throws changes nothing");
        CHECKS.refusesState(desk.sheet::goBack, "undo brings no snapshot");
    }
}
