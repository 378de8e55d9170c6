/** What the document says first: what the whole is, in one walk through it, and how many calls an object takes. */
final class WholeBoundaries {
    private final Bounds bounds;

    WholeBoundaries(Bounds bounds) {
        this.bounds = bounds;
    }

    void test() {
        Desk desk = new Desk();
        contents(desk);
        dependence(desk);
        changes(desk);
        answers(desk);
        textsAndPast(desk);
        manyCalls();
    }

    private void contents(Desk desk) {
        bounds.whatItIs("A spreadsheet: cells with numbers and formulas,");
        desk.sheet.setNumber(0, 7);
        desk.with("B1", "=A1*6");
        bounds.due("7 42", desk.value("A1") + " " + desk.value("B1"), "A1, B1");
        bounds.whatItIs("functions over ranges,");
        desk.with("C1", "=SUM(A1:B1)+COUNT(A1:J1)");
        bounds.due("CYCLE", desk.told("C1"), "a range in which the formula itself lies");
        desk.with("C1", "=SUM(A1:B1)+COUNT(A1:B20)");
        bounds.due(51, desk.value("C1"), "7 + 42 + 2");
        bounds.whatItIs("references that are fixed or not,");
        desk.with("D1", "=$A$1+A$1+$A1+A1");
        desk.sheet.copyBlock(3, 3, 14);
        bounds.due("=$A$1+B$1+$A2+B2 49", desk.formula("E2") + " " + desk.value("E2"), "a copy of D1");
        desk.sheet.clear(14);
    }

    private void dependence(Desk desk) {
        bounds.whatItIs("cells that depend on one another,");
        bounds.due("true false 3", desk.sheet.dependsOn(2, 0) + " " + desk.sheet.dependsOn(0, 2) + " "
            + desk.sheet.allDependents(0), "C1 and A1");
        bounds.whatItIs("rings of cells,");
        desk.with("F3", "=G3", "G3", "=F3", "H3", "=F3");
        bounds.due("true true false CYCLE", desk.sheet.isRing(25) + " " + desk.sheet.isRing(26) + " "
            + desk.sheet.isRing(27) + " " + desk.told("H3"), "F3, G3, and what depends on them");
        bounds.whatItIs("an order in which formulas are computed, each once in a change,");
        bounds.due("1 2 3 -1", desk.sheet.orderAt(0) + " " + desk.sheet.orderAt(1) + " " + desk.sheet.orderAt(2) + " "
            + desk.sheet.orderAt(3), "B1, C1, D1");
        bounds.due(3, desk.sheet.setNumber(0, 8), "C1 once, though it depends in two ways");
    }

    private void changes(Desk desk) {
        bounds.whatItIs("blocks that are copied,");
        bounds.due(3, desk.sheet.copyBlock(0, 2, 40), "A1, B1, C1");
        bounds.due("8 48 =SUM(A5:B5)+COUNT(#REF)", desk.value("A5") + " " + desk.value("B5") + " "
            + desk.formula("C5"), "the copies, of which one would have left the sheet");
        bounds.whatItIs("cells that are moved,");
        bounds.due(5, desk.sheet.moveCell(0, 60), "one reference in B1, four in D1");
        bounds.due("8 =A7*6 true", desk.value("A7") + " " + desk.formula("B1") + " " + desk.sheet.isEmpty(0), "A1, A7");
        bounds.whatItIs("rows and columns that are inserted and deleted,");
        String before = desk.formula("B1") + desk.formula("D1") + desk.formula("C5");
        desk.sheet.insertRow(0);
        bounds.due("=A8*6", desk.formula("B2"), "a row is inserted");
        desk.sheet.insertColumn(0);
        bounds.due("=B8*6", desk.formula("C2"), "a column is inserted");
        desk.sheet.deleteRow(0);
        desk.sheet.deleteColumn(0);
        bounds.due(before, desk.formula("B1") + desk.formula("D1") + desk.formula("C5"),
            "both are deleted again");
    }

    private void answers(Desk desk) {
        bounds.whatItIs("references that follow or break,");
        desk.with("J1", "=A7+A8");
        desk.sheet.deleteRow(7);
        bounds.due("=A7+#REF", desk.formula("J1"), "the row 7 is deleted");
        bounds.whatItIs("errors of their kinds,");
        desk.with("J2", "=1/0", "J3", "=999999*999999", "J4", "=MIN(J10:J11)");
        bounds.due("REFERENCE DIVISION SIZE VALUES CYCLE", desk.told("J1") + " " + desk.told("J2") + " "
            + desk.told("J3") + " " + desk.told("J4") + " " + desk.told("F3"), "each one");
        bounds.whatItIs("values told in two ways,");
        bounds.due("48 48", desk.sheet.value(1) + " " + desk.sheet.valueByAsking(1), "B1");
        bounds.whatItIs("what would be with another number,");
        bounds.due("54 10 48", desk.sheet.valueIf(60, 9, 1) + " " + desk.sheet.numberFor(60, 1, 60) + " "
            + desk.value("B1"), "A7 with 9, and with which number B1 is 60");
    }

    private void textsAndPast(Desk desk) {
        bounds.whatItIs("contents and orders as texts with the places of their faults,");
        bounds.due("4 4", desk.contentFault("=A1+*2") + " " + desk.ordersFault("A1:7*2;"), "the places");
        bounds.whatItIs("undo, a snapshot.");
        desk.sheet.keep();
        String kept = desk.look();
        desk.write("A7:1;B1:;").sheet.runOrders();
        desk.sheet.clear(2);
        bounds.due("3 2", desk.sheet.undo() + " " + desk.sheet.undo(), "undo");
        bounds.due(kept, desk.look(), "undone");
        desk.sheet.deleteColumn(0);
        desk.sheet.goBack();
        bounds.due(kept, desk.look(), "the snapshot");
    }

    private void manyCalls() {
        bounds.whatItIs("An object is used for at most 512 calls after it has been made; what later calls answer is "
            + "free.");
        CalculatedSheet sheet = new CalculatedSheet();
        for (int call = 1; call < 512; call++) {
            bounds.due(0, sheet.setNumber(call % 200, call), "the call " + call);
        }
        bounds.due(511, sheet.value(511 % 200), "the call 512");
    }
}
