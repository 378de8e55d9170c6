/** The edges of the changes, of records and the snapshot: promises 6 to 18. */
final class ChangeBoundaries {
    private static final String FAULTY = "Throws `IllegalStateException` if the pad has a fault as ";
    private static final String CELL = "- `cell`: 0 to 199";
    private static final String CELL_THROWS = "Throws `IllegalArgumentException` if cell is out of range";

    private final Bounds bounds;

    ChangeBoundaries(Bounds bounds) {
        this.bounds = bounds;
    }

    void test() {
        computedByOneCell();
        computedByAll();
        entering();
        setting();
        clearing();
        copying();
        copyingReferences();
        copyingTooFar();
        moving();
        movingReferences();
        insertingRows();
        insertingColumns();
        deletingRows();
        deletingColumns();
        overAnError();
        referencesAlongLines();
        cornersAlongLines();
        runningOrders();
        goingBack();
        keeping();
        undoing();
        recording();
        throwing();
    }

    private void computedByOneCell() {
        bounds.terms("When a cell is entered, set or cleared, this cell (if it is a formula then) and all formulas "
            + "that depend on it then are computed, each once (those with the error CYCLE, too).");
        Desk desk = new Desk();
        bounds.due("0 0 0", desk.enter("A1", "5") + " " + desk.sheet.setNumber(0, 6) + " " + desk.sheet.clear(0),
            "no formula at all");
        bounds.due(1, desk.enter("A1", "=5"), "the cell itself");
        bounds.due(1, desk.enter("B1", "=C1+C1"), "two references to one cell");
        bounds.due(1, desk.sheet.setNumber(2, 6), "what depends on it in two ways, once");
        desk.with("D1", "=B1", "E1", "=B1+D1+C1");
        bounds.due(3, desk.sheet.setNumber(2, 6), "a formula with three ways to the cell, once");
        bounds.due(3, desk.enter("C1", ""), "the cell itself is no formula then");
        bounds.due(4, desk.enter("C1", "=1"), "the cell itself is a formula then");
        bounds.due(3, desk.sheet.setNumber(2, 1), "the cell itself was a formula");
        bounds.due(4, desk.enter("C1", "=C1"), "a ring of one, once, and what depends on it");
        bounds.due(4, desk.enter("C1", "=E1"), "a ring of some, each once");
        bounds.due(4, desk.enter("B1", "=7"), "the ring is cut: what depends on the cell then");
        bounds.due(1, desk.enter("J20", "=SUM(A1:J19)"), "nothing depends on the last cell");
        bounds.due(1, desk.sheet.setNumber(55, 1), "a range alone refers to the cell");
        Desk rings = new Desk().with("A1", "=B1", "B1", "=A1", "C1", "=A1", "D1", "=1");
        bounds.due("2 0", rings.sheet.clear(0) + " " + rings.sheet.clear(1), "B1 and C1, then nothing");
        bounds.due(0, rings.value("C1"), "its value then");
    }

    private void computedByAll() {
        bounds.terms("With all other changes but goBack all formulas of the sheet are computed, each once; with "
            + "runOrders that is behind the last order.");
        Scene.Call[] changes = {sheet -> sheet.copyBlock(99, 99, 99), sheet -> sheet.moveCell(98, 97),
            sheet -> sheet.insertRow(10),
            sheet -> sheet.deleteRow(18), sheet -> sheet.insertColumn(8), sheet -> sheet.deleteColumn(8),
            CalculatedSheet::runOrders};
        for (int change = 0; change < changes.length; change++) {
            Desk desk = new Desk().with("A1", "=1", "B1", "=A1+A1", "C1", "=C1", "D1", "=C1", "E1", "7").write("");
            int before = desk.sheet.allComputed();
            changes[change].on(desk.sheet);
            bounds.due("4 4", desk.sheet.latestComputed() + " " + (desk.sheet.allComputed() - before),
                "change " + change);
            Desk empty = new Desk();
            changes[change].on(empty.sheet);
            bounds.due("0 0", empty.sheet.latestComputed() + " " + empty.sheet.allComputed(),
                "change " + change + " in an empty sheet");
        }
        Desk orders = new Desk().write("A1:=B1;B1:=C1;C1:=D1;D1:3;A1:=B1+1;");
        bounds.due(5, orders.sheet.runOrders(), "orders that enter formulas");
        bounds.due("3 3 4", orders.sheet.latestComputed() + " " + orders.sheet.allComputed() + " " + orders.value("A1"),
            "behind the last order");
        Desk back = new Desk().with("A1", "=1");
        back.sheet.keep();
        back.with("A1", "=2");
        back.sheet.goBack();
        bounds.due(1, back.sheet.allComputed(), "goBack computes nothing");
    }

    private void entering() {
        bounds.promise(6, "Enters the content of the pad into a cell. The pad does not change.");
        Desk desk = new Desk().write("=A1+7");
        desk.sheet.enter(1);
        desk.sheet.enter(199);
        bounds.due("=A1+7 =A1+7 5", desk.formula("B1") + " " + desk.formula("J20") + " " + desk.sheet.clearPad(),
            "the pad stays");
        desk.sheet.enter(199);
        bounds.yes(desk.sheet.isEmpty(199), "an empty pad makes the cell empty");
        bounds.cells(6, CELL, CalculatedSheet::enter);
        bounds.promise(6, "Returns how many formulas are computed.");
        bounds.due(0, new Desk().enter("A1", "5"), "none");
        bounds.due(1, new Desk().enter("J20", "=5"), "one");
        bounds.due(200, Desk.full("=1").enter("J20", "=7"), "all 200");
        bounds.due(199, Desk.full("=1").enter("J20", "7"), "all but the number itself");
        bounds.cells(6, CELL_THROWS, CalculatedSheet::enter);
        bounds.promise(6, FAULTY + "a content");
        Scene unfinished = Scene.busy("=A1+", "1");
        bounds.refuses(Bounds.STATE, unfinished, sheet -> sheet.enter(0), "a pad that is not complete");
        bounds.refuses(Bounds.STATE, unfinished, sheet -> sheet.enter(199), "a pad that is not complete");
        bounds.refuses(Bounds.STATE, Scene.busy("A1:5;", ""), sheet -> sheet.enter(0), "orders");
        bounds.refuses(Bounds.STATE, Scene.busy("=" + "(".repeat(59), ""), sheet -> sheet.enter(0),
            "a full pad with a fault");
        bounds.refuses(Bounds.ARGUMENT, unfinished, sheet -> sheet.enter(-1), "a wrong cell and a fault");
        bounds.refuses(Bounds.ARGUMENT, unfinished, sheet -> sheet.enter(200), "a wrong cell and a fault");
    }

    private void setting() {
        bounds.promise(7, "Sets a number into a cell.");
        Desk desk = new Desk().with("B1", "=A1");
        desk.sheet.setNumber(0, 4);
        desk.sheet.setNumber(199, -4);
        bounds.due("4 4 -4", desk.value("A1") + " " + desk.value("B1") + " " + desk.value("J20"), "setNumber");
        desk.sheet.setNumber(1, 9);
        bounds.no(desk.sheet.isFormula(1), "a number in place of a formula");
        bounds.cells(7, CELL, (sheet, cell) -> sheet.setNumber(cell, 1));
        bounds.limits(7, "- `number`: -999999 to 999999", -999999, 999999, (sheet, number) -> sheet.setNumber(0,
            number));
        desk.sheet.setNumber(0, 999999);
        bounds.due(999999, desk.value("A1"), "the greatest number");
        desk.sheet.setNumber(0, -999999);
        bounds.due(-999999, desk.value("A1"), "the least number");
        bounds.promise(7, "Returns how many formulas are computed.");
        bounds.due("0 199", new CalculatedSheet().setNumber(0, 1) + " " + Desk.full("=1").sheet.setNumber(199, 2),
            "none, and the most");
        bounds.promise(7, "Throws `IllegalArgumentException` if cell or number is out of range");
        bounds.refusesArgument(sheet -> sheet.setNumber(200, 0), "a wrong cell");
        bounds.refusesArgument(sheet -> sheet.setNumber(199, 1000000), "a wrong number");
        bounds.refusesArgument(sheet -> sheet.setNumber(-1, -1000000), "a wrong cell and a wrong number");
    }

    private void clearing() {
        bounds.promise(8, "Makes a cell empty.");
        Desk desk = new Desk().with("A1", "5", "J20", "=A1", "B1", "=A1");
        desk.sheet.clear(0);
        desk.sheet.clear(199);
        bounds.due("true true 0 1", desk.sheet.isEmpty(0) + " " + desk.sheet.isEmpty(199) + " " + desk.value("B1") + " "
            + desk.sheet.filled(), "a number, and a formula");
        bounds.cells(8, CELL, CalculatedSheet::clear);
        bounds.promise(8, "Returns how many formulas are computed.");
        bounds.due("0 1 199", new CalculatedSheet().clear(0) + " " + desk.sheet.clear(0) + " "
            + Desk.full("=1").sheet.clear(199), "none, what refers to an empty cell, the most");
        bounds.due(1, desk.sheet.clear(1) + desk.sheet.clear(0) + desk.enter("C1", "=1"),
            "a formula that is gone is not computed");
        bounds.cells(8, CELL_THROWS, CalculatedSheet::clear);
    }

    private static String row(Desk desk, String first, int count) {
        String told = "";
        for (int step = 0; step < count; step++) {
            int cell = Desk.at(first) + step;
            told += (desk.sheet.isEmpty(cell) ? "-" : desk.told(cell)) + " ";
        }
        return told.trim();
    }

    private void copying() {
        bounds.terms("When a block of cells is copied, all contents are taken first, then they are put.");
        bounds.promise(9, "Copies a block of cells.");
        Desk desk = new Desk().with("A1", "1", "B1", "2", "C1", "3");
        desk.sheet.copyBlock(0, 2, 1);
        bounds.due("1 1 2 3", row(desk, "A1", 4), "blocks that overlap to the right");
        desk.sheet.copyBlock(1, 3, 0);
        bounds.due("1 2 3 3", row(desk, "A1", 4), "blocks that overlap to the left");
        desk.sheet.copyBlock(0, 3, 10);
        desk.with("A1", "7");
        desk.sheet.copyBlock(0, 13, 10);
        bounds.due("7 2 3 3, 7 2 3 3, 1 2 3 3", row(desk, "A1", 4) + ", " + row(desk, "A2", 4) + ", " + row(desk,
            "A3", 4), "downwards");
        desk.sheet.copyBlock(10, 23, 0);
        bounds.due("7 2 3 3, 1 2 3 3, 1 2 3 3", row(desk, "A1", 4) + ", " + row(desk, "A2", 4) + ", " + row(desk,
            "A3", 4), "upwards");
        desk.sheet.copyBlock(4, 4, 0);
        bounds.due("- 2 3 3", row(desk, "A1", 4), "an empty cell");
        Desk block = new Desk().with("B2", "=A1", "C2", "=B2", "B3", "=B2", "C3", "=$A1+C$3");
        block.sheet.copyBlock(11, 22, 34);
        bounds.due("=D3 =E4 =E4 =$A3+F$3", block.formula("E4") + " " + block.formula("F4") + " " + block.formula("E5")
            + " " + block.formula("F5"), "all formulas of a block move alike");
        block.sheet.copyBlock(34, 45, 77);
        bounds.due("=G7 =H8 =H8 =$A7+I$3", block.formula("H8") + " " + block.formula("I8") + " " + block.formula("H9")
            + " " + block.formula("I9"), "a copy of a copy");
        bounds.promise(9, "- `first`: 0 to 199: the upper left cell of the block");
        bounds.cells(9, "- `first`: 0 to 199", (sheet, cell) -> sheet.copyBlock(cell, 199, 0));
        bounds.promise(9, "- `last`: 0 to 199: the lower right cell of the block");
        bounds.cells(9, "- `last`: 0 to 199", (sheet, cell) -> sheet.copyBlock(0, cell, 0));
        bounds.promise(9, "- `to`: 0 to 199: the upper left cell of where it is copied to");
        bounds.cells(9, "- `to`: 0 to 199", (sheet, cell) -> sheet.copyBlock(5, 5, cell));
        Desk ends = new Desk().with("A1", "=1", "J20", "8");
        ends.sheet.copyBlock(199, 199, 9);
        ends.sheet.copyBlock(0, 0, 190);
        bounds.due("8 1", ends.value("J1") + " " + ends.value("A20"), "the first cell and the last one");
        bounds.promise(9, "Returns how many cells are copied, empty ones too.");
        bounds.due("1 1 2 2 200 10 20", ends.sheet.copyBlock(0, 0, 199) + " " + ends.sheet.copyBlock(50, 50, 60) + " "
            + ends.sheet.copyBlock(0, 1, 100) + " " + ends.sheet.copyBlock(0, 10, 55) + " " + ends.sheet.copyBlock(0,
            199, 0) + " " + ends.sheet.copyBlock(0, 9, 190) + " " + ends.sheet.copyBlock(0, 190, 9), "copyBlock");
    }

    private static String copied(String formula, int from, int to) {
        Desk desk = new Desk().with(Desk.name(from), formula);
        desk.sheet.copyBlock(from, from, to);
        return desk.formula(to);
    }

    private void copyingReferences() {
        bounds.terms("In a formula that is copied, the columns and rows of references move along with it, by as many "
            + "columns and rows as the formula itself, where they have no \"$\" ahead.");
        String formula = "=B2+$B2+B$2+$B$2+SUM(B2:$C$3)";
        bounds.due("=C2+$B2+C$2+$B$2+SUM(C2:$C$3)", copied(formula, 44, 45), "one to the right");
        bounds.due("=A2+$B2+A$2+$B$2+SUM(A2:$C$3)", copied(formula, 44, 43), "one to the left");
        bounds.due("=B3+$B3+B$2+$B$2+SUM(B3:$C$3)", copied(formula, 44, 54), "one down");
        bounds.due("=B1+$B1+B$2+$B$2+SUM(B1:$C$3)", copied(formula, 44, 34), "one up");
        bounds.due(formula, copied(formula, 44, 44), "onto itself");
        bounds.due("=J20+$A$1", copied("=A1+$A$1", 0, 199), "as far as it goes");
        bounds.due("=A1+$J$20", copied("=J20+$J$20", 199, 0), "as far as it goes, back");
        bounds.due("=-A2*999999", copied("=-A1*999999", 0, 10), "numbers stay");
        bounds.terms("A reference that would leave the sheet is broken; a range is broken if one of its corners would "
            + "leave the sheet.");
        bounds.due("=I1+J1", copied("=H1+I1", 0, 1), "to the last column");
        bounds.due("=J1+#REF", copied("=I1+J1", 0, 1), "beyond the last column");
        bounds.due("=A1+B1", copied("=B1+C1", 11, 10), "to the first column");
        bounds.due("=#REF+A1", copied("=A1+B1", 11, 10), "ahead of the first column");
        bounds.due("=A19+A20", copied("=A18+A19", 0, 10), "to the last row");
        bounds.due("=A20+#REF", copied("=A19+A20", 0, 10), "below the last row");
        bounds.due("=A1+A2", copied("=A2+A3", 11, 1), "to the first row");
        bounds.due("=#REF+A1", copied("=A1+A2", 11, 1), "above the first row");
        bounds.due("=$J2+#REF+J$1", copied("=$J1+J1+I$1", 0, 11), "a column that is fixed does not leave");
        bounds.due("=B$20+#REF+$A20", copied("=A$20+A20+$A19", 0, 11), "a row that is fixed does not leave");
        bounds.due("=#REF+$J$20", copied("=J$20+$J$20", 0, 1), "a fixed row, but the column leaves to the right");
        bounds.due("=#REF+$A$1+#REF", copied("=A$1+$A$1+A$20", 11, 10),
            "a fixed row, but the column leaves to the left");
        bounds.due("=#REF+$A$1+#REF", copied("=$A1+$A$1+$J1", 11, 1), "a fixed column, but the row leaves upwards");
        bounds.due("=#REF+$A$20+#REF", copied("=$A20+$A$20+$J20", 0, 10), "a fixed column, but the row leaves down");
        bounds.due("=#REF+#REF+A7", copied("=A5+A20+B7", 11, 10), "not into the row above");
        bounds.due("=#REF+#REF+J7", copied("=J5+J19+I7", 0, 1), "not into the row below");
        bounds.due("=#REF+#REF", copied("=E1+J1", 11, 1), "every column leaves upwards");
        bounds.due("=SUM(#REF)+SUM(#REF)", copied("=SUM(A$5:B7)+SUM(B$5:A7)", 11, 10), "a corner with a fixed row");
        bounds.due("=SUM(#REF)+SUM(#REF)", copied("=SUM($B1:C7)+SUM(C7:$B1)", 11, 1), "a corner with a fixed column");
        bounds.due("=SUM(I1:J1)+SUM(#REF)+SUM(#REF)", copied("=SUM(H1:I1)+SUM(I1:J1)+SUM(J1:I1)", 0, 1),
            "corners to the right");
        bounds.due("=SUM(A1:B1)+SUM(#REF)+SUM(#REF)", copied("=SUM(B1:C1)+SUM(A1:B1)+SUM(B1:A1)", 11, 10),
            "corners to the left");
        bounds.due("=SUM(A19:A20)+SUM(#REF)+SUM(#REF)", copied("=SUM(A18:A19)+SUM(A19:A20)+SUM(A20:A19)", 0, 10),
            "corners down");
        bounds.due("=SUM(A1:A2)+SUM(#REF)+SUM(#REF)", copied("=SUM(A2:A3)+SUM(A1:A2)+SUM(A2:A1)", 11, 1), "corners up");
        bounds.due("=SUM($J$20:J20)+SUM(#REF)", copied("=SUM($J$20:I19)+SUM($J$20:J20)", 0, 11), "one corner is fixed");
        Desk whole = new Desk().with("A1", "=J20");
        whole.sheet.copyBlock(0, 0, 199);
        bounds.due("=#REF REFERENCE 0", whole.formula("J20") + " " + whole.told("J20") + " "
            + whole.sheet.references(199), "far beyond");
        whole.sheet.copyBlock(199, 199, 0);
        bounds.due("=#REF", whole.formula("A1"), "a broken reference stays broken");
    }

    private void copyingTooFar() {
        bounds.promise(9, "Throws `IllegalArgumentException` if an argument is out of range, or the row or the column "
            + "of last is below that of first");
        bounds.refusesArgument(sheet -> sheet.copyBlock(11, 1, 0), "the row of last is one less");
        bounds.refusesArgument(sheet -> sheet.copyBlock(11, 10, 0), "the column of last is one less");
        bounds.refusesArgument(sheet -> sheet.copyBlock(11, 0, 0), "both are one less");
        bounds.refusesArgument(sheet -> sheet.copyBlock(199, 0, 0), "as far as it goes");
        bounds.refusesArgument(sheet -> sheet.copyBlock(9, 10, 0), "last is greater, but its column is less");
        bounds.refusesArgument(sheet -> sheet.copyBlock(11, 2, 0), "the column is greater, but the row is less");
        bounds.refusesArgument(sheet -> sheet.copyBlock(200, 200, 200), "all are out of range");
        bounds.refusesArgument(sheet -> sheet.copyBlock(Bounds.LEAST, Bounds.GREATEST, 0),
            "as far out of range as it goes");
        bounds.refusesArgument(sheet -> sheet.copyBlock(Bounds.GREATEST, Bounds.LEAST, Bounds.GREATEST),
            "as far out of range as it goes");
        bounds.refusesArgument(sheet -> sheet.copyBlock(11, 10, 199), "last is less and it would leave");
        bounds.refusesArgument(sheet -> sheet.copyBlock(0, 199, 200), "to is out of range and it would leave");
        bounds.due("1 2 2", bounds.busy.outcome(sheet -> sheet.copyBlock(11, 11, 0)) + " "
            + bounds.busy.outcome(sheet -> sheet.copyBlock(11, 12, 0)) + " "
            + bounds.busy.outcome(sheet -> sheet.copyBlock(11, 21, 0)), "the same row, the same column");
        bounds.promise(9, "Throws `IllegalStateException` if it would leave the sheet");
        bounds.refusesState(sheet -> sheet.copyBlock(0, 1, 9), "one column too many");
        bounds.refusesState(sheet -> sheet.copyBlock(0, 9, 1), "a whole row, one to the right");
        bounds.refusesState(sheet -> sheet.copyBlock(0, 10, 190), "one row too many");
        bounds.refusesState(sheet -> sheet.copyBlock(0, 190, 10), "a whole column, one down");
        bounds.refusesState(sheet -> sheet.copyBlock(0, 11, 199), "a row and a column too many");
        bounds.refusesState(sheet -> sheet.copyBlock(0, 199, 1), "the whole sheet, one to the right");
        bounds.refusesState(sheet -> sheet.copyBlock(0, 199, 10), "the whole sheet, one down");
        bounds.due("2 2 4 10 20 200", bounds.busy.outcome(sheet -> sheet.copyBlock(0, 1, 198)) + " "
            + bounds.busy.outcome(sheet -> sheet.copyBlock(0, 10, 189)) + " "
            + bounds.busy.outcome(sheet -> sheet.copyBlock(0, 11, 188)) + " "
            + bounds.busy.outcome(sheet -> sheet.copyBlock(0, 9, 190)) + " "
            + bounds.busy.outcome(sheet -> sheet.copyBlock(0, 190, 9)) + " "
            + bounds.busy.outcome(sheet -> sheet.copyBlock(0, 199, 0)), "it just fits");
    }

    private void moving() {
        bounds.terms("When a cell is moved to another one, its content goes there unchanged, and the cell is empty "
            + "then.");
        bounds.promise(10, "Moves a cell to another one.");
        Desk desk = new Desk().with("A1", "=$B$1+C1+SUM(A2:B3)", "B1", "4", "J20", "=9");
        desk.sheet.moveCell(0, 199);
        bounds.due("=$B$1+C1+SUM(A2:B3) 4 true", desk.formula("J20") + " " + desk.value("J20") + " "
            + desk.sheet.isEmpty(0), "a formula");
        desk.sheet.moveCell(1, 9);
        bounds.due("4 true =$J$1+C1+SUM(A2:B3)", desk.value("J1") + " " + desk.sheet.isEmpty(1) + " "
            + desk.formula("J20"), "a number");
        desk.sheet.moveCell(50, 9);
        bounds.due("true true 1", desk.sheet.isEmpty(9) + " " + desk.sheet.isEmpty(50) + " " + desk.sheet.filled(),
            "nothing");
        bounds.cells(10, "- `from`: 0 to 199", (sheet, cell) -> sheet.moveCell(cell, 100));
        bounds.cells(10, "- `to`: 0 to 199", (sheet, cell) -> sheet.moveCell(100, cell));
        bounds.promise(10, "Throws `IllegalArgumentException` if from or to is out of range, or both are the same");
        for (int cell : new int[] {0, 100, 199, -1, 200, Bounds.LEAST, Bounds.GREATEST}) {
            bounds.refusesArgument(sheet -> sheet.moveCell(cell, cell), cell + " to itself");
        }
        bounds.refusesArgument(sheet -> sheet.moveCell(-1, 200), "both are out of range");
        bounds.promise(10, "Returns how many references are changed, those that are broken among them (each one in a "
            + "formula counts).");
        bounds.due(0, new CalculatedSheet().moveCell(0, 199), "none");
        bounds.due(0, new Desk().with("C1", "=SUM(A1:B1)").sheet.moveCell(0, 1), "corners do not count");
        bounds.due(3, new Desk().with("C1", "=A1+$A$1*A$1").sheet.moveCell(0, 1), "three in one formula");
        bounds.due(2, new Desk().with("C1", "=A1+D1", "D1", "=B1").sheet.moveCell(0, 1), "one changed, one broken");
        bounds.due(2, new Desk().with("A1", "=A1+B1").sheet.moveCell(0, 1), "in the formula that is moved");
        bounds.due(0, new Desk().with("B1", "=A1+B1").sheet.moveCell(0, 1), "none in the formula that is no more");
        bounds.due(20, new Desk().with("J20", "=" + "A1+".repeat(19) + "A1").sheet.moveCell(0, 5),
            "as many as a formula can have");
        bounds.due(0, new Desk().with("C1", "=A1", "C1", "5").sheet.moveCell(0, 1),
            "a formula that a content replaced does not count");
        Desk replaced = new Desk().with("C1", "=A1", "D1", "=A1", "E1", "=A1", "F1", "=A1");
        replaced.sheet.setNumber(2, 5);
        replaced.sheet.clear(3);
        replaced.sheet.copyBlock(9, 9, 4);
        replaced.write("F1:3;").sheet.runOrders();
        bounds.due(0, replaced.sheet.moveCell(0, 1), "formulas that were replaced do not count");
        Desk broken = new Desk().with("C1", "=A1+A1");
        broken.sheet.moveCell(1, 0);
        bounds.due(0, broken.sheet.moveCell(0, 1) + broken.sheet.moveCell(1, 0),
            "references that are broken change no more");
    }

    private static String moved(String formula, int from, int to) {
        Desk desk = new Desk().with("E5", formula);
        desk.sheet.moveCell(from, to);
        return desk.formula(to == 44 ? 0 : from == 44 ? to : 44);
    }

    private void movingReferences() {
        bounds.terms("In all formulas (also in the one that is moved), references to the cell become references to the "
            + "other one, with \"$\" as they were; references to the other one, as it was before, are broken.");
        bounds.due("=J20+$J20+J$20+$J$20", moved("=A1+$A1+A$1+$A$1", 0, 199), "the first cell to the last one");
        bounds.due("=A1+$A1+A$1+$A$1", moved("=J20+$J20+J$20+$J$20", 199, 0), "the last cell to the first one");
        bounds.due("=#REF+#REF+#REF+#REF", moved("=J20+$J20+J$20+$J$20", 0, 199), "references to the other one");
        bounds.due("=B1+#REF+C1", moved("=A1+B1+C1", 0, 1), "some of each");
        bounds.due("=F5+#REF+A1", moved("=E5+F5+A1", 44, 45), "the formula that is moved");
        bounds.due("=B2+A3+B3", moved("=A2+A3+B3", 10, 11), "the neighbours stay");
        Desk desk = new Desk().with("A1", "=B1", "C1", "=A1");
        desk.sheet.moveCell(2, 0);
        bounds.due("=#REF 0 1", desk.formula("A1") + " " + desk.sheet.references(0) + " " + desk.sheet.formulas(),
            "a formula that is moved to the cell to which it refers");
        bounds.terms("Corners of ranges stay.");
        bounds.due("=SUM(A1:B2)+B1", moved("=SUM(A1:B2)+A1", 0, 1), "a corner that is moved");
        bounds.due("=SUM(A1:A1)+SUM($B$1:B1)", moved("=SUM(A1:A1)+SUM($B$1:B1)", 0, 1), "ranges of one cell");
        bounds.due("=SUM(E5:F6)", moved("=SUM(E5:F6)", 44, 100), "the formula that is moved");
    }

    /** A sheet with numbers in its corners but those of the last row and the last column, and in the middle. */
    private static Desk corners() {
        Desk desk = new Desk();
        desk.sheet.setNumber(0, 1);
        desk.sheet.setNumber(8, 2);
        desk.sheet.setNumber(180, 3);
        desk.sheet.setNumber(188, 4);
        desk.sheet.setNumber(55, 5);
        return desk;
    }

    private static String places(Desk desk) {
        return desk.sheet.find(1) + " " + desk.sheet.find(2) + " " + desk.sheet.find(3) + " " + desk.sheet.find(4) + " "
            + desk.sheet.find(5);
    }

    private void insertingRows() {
        bounds.terms("When a row is inserted, all cells from this row on go one row down; the row is empty then.");
        bounds.promise(11, "Inserts an empty row.");
        bounds.promise(11, "Returns how many cells go one row down that are not empty.");
        int[][] due = {{0, 5}, {1, 3}, {5, 3}, {6, 2}, {18, 2}, {19, 0}};
        String[] then = {"10 18 190 198 65", "0 8 190 198 65", "0 8 190 198 65", "0 8 190 198 55", "0 8 190 198 55",
            "0 8 180 188 55"};
        for (int place = 0; place < due.length; place++) {
            int row = due[place][0];
            Desk desk = corners();
            bounds.due(due[place][1], desk.sheet.insertRow(row), "insertRow " + row);
            bounds.due(then[place], places(desk), "insertRow " + row);
            bounds.due("0 5", desk.sheet.rowTotal(row) + " " + desk.sheet.filled(), "the row is empty then");
            for (int column = 0; column < 10; column++) {
                bounds.yes(desk.sheet.isEmpty(10 * row + column), "the row is empty then");
            }
        }
        bounds.due(0, new CalculatedSheet().insertRow(0), "an empty sheet");
        Desk most = Desk.everywhere("3");
        most.sheet.deleteRow(19);
        bounds.due(190, most.sheet.insertRow(0), "as many as can go");
        Scene scene = new Scene("", () -> corners().write("=A1"));
        bounds.promise(11, "- `row`: 0 to 19");
        bounds.promise(11, "Throws `IllegalArgumentException` if row is out of range");
        for (int row : new int[] {-1, 20, Bounds.LEAST, Bounds.GREATEST}) {
            bounds.refuses(Bounds.ARGUMENT, scene, sheet -> sheet.insertRow(row), "insertRow " + row);
            bounds.refusesArgument(sheet -> sheet.insertRow(row), "insertRow while the last row is not empty " + row);
        }
        bounds.terms("This is only possible if the last row is empty.");
        bounds.promise(11, "Throws `IllegalStateException` if the last row is not empty");
        for (int cell = 190; cell < 200; cell++) {
            int filled = cell;
            for (String content : new String[] {"0", "=1"}) {
                Scene full = new Scene("", () -> new Desk().with("A1", "7", Desk.name(filled), content).write("=A1"));
                bounds.refuses(Bounds.STATE, full, sheet -> sheet.insertRow(0), "the cell " + cell);
                bounds.refuses(Bounds.STATE, full, sheet -> sheet.insertRow(19), "the cell " + cell);
            }
        }
        Desk freed = new Desk().with("A20", "1", "A19", "2", "A20", "");
        bounds.due(1, freed.sheet.insertRow(0), "when the last row was cleared");
    }

    private void insertingColumns() {
        bounds.promise(13, "Inserts an empty column.");
        bounds.promise(13, "Returns how many cells go one column to the right that are not empty.");
        int[][] due = {{0, 5}, {1, 3}, {5, 3}, {6, 2}, {8, 2}, {9, 0}};
        String[] then = {"1 9 181 189 56", "0 9 180 189 56", "0 9 180 189 56", "0 9 180 189 55", "0 9 180 189 55",
            "0 8 180 188 55"};
        for (int place = 0; place < due.length; place++) {
            int column = due[place][0];
            Desk desk = corners();
            bounds.due(due[place][1], desk.sheet.insertColumn(column), "insertColumn " + column);
            bounds.due(then[place], places(desk), "insertColumn " + column);
            for (int row = 0; row < 20; row++) {
                bounds.yes(desk.sheet.isEmpty(10 * row + column), "the column is empty then");
            }
        }
        bounds.due(0, new CalculatedSheet().insertColumn(0), "an empty sheet");
        Desk most = Desk.everywhere("3");
        most.sheet.deleteColumn(9);
        bounds.due(180, most.sheet.insertColumn(0), "as many as can go");
        Scene scene = new Scene("", () -> corners().write("=A1"));
        bounds.promise(13, "- `column`: 0 to 9");
        bounds.promise(13, "Throws `IllegalArgumentException` if column is out of range");
        for (int column : new int[] {-1, 10, Bounds.LEAST, Bounds.GREATEST}) {
            bounds.refuses(Bounds.ARGUMENT, scene, sheet -> sheet.insertColumn(column), "insertColumn " + column);
            bounds.refusesArgument(sheet -> sheet.insertColumn(column),
                "insertColumn while the last column is not empty " + column);
        }
        bounds.promise(13, "Throws `IllegalStateException` if the last column is not empty");
        for (int row = 0; row < 20; row++) {
            String filled = "J" + (row + 1);
            for (String content : new String[] {"0", "=1"}) {
                Scene full = new Scene("", () -> new Desk().with("A1", "7", filled, content).write("=A1"));
                bounds.refuses(Bounds.STATE, full, sheet -> sheet.insertColumn(0), "the cell " + filled);
                bounds.refuses(Bounds.STATE, full, sheet -> sheet.insertColumn(9), "the cell " + filled);
            }
        }
    }

    private void deletingRows() {
        bounds.terms("When a row is deleted, its cells go, and all cells below it go one row up; the last row is empty "
            + "then.");
        bounds.promise(12, "Deletes a row.");
        bounds.promise(12, "Returns how many cells go away that are not empty.");
        int[][] due = {{0, 2}, {1, 0}, {5, 1}, {6, 0}, {18, 2}, {19, 1}};
        String[] then = {"-1 -1 170 178 45", "0 8 170 178 45", "0 8 170 178 -1", "0 8 170 178 55", "0 8 -1 -1 55",
            "0 8 180 188 55"};
        for (int place = 0; place < due.length; place++) {
            int row = due[place][0];
            Desk desk = corners();
            desk.sheet.setNumber(199, 6);
            bounds.due(due[place][1], desk.sheet.deleteRow(row), "deleteRow " + row);
            bounds.due(then[place] + " " + (row == 19 ? -1 : 189), places(desk) + " " + desk.sheet.find(6),
                "deleteRow " + row);
            for (int column = 0; column < 10; column++) {
                bounds.yes(desk.sheet.isEmpty(190 + column), "the last row is empty then");
            }
        }
        bounds.due(0, new CalculatedSheet().deleteRow(0), "an empty sheet");
        Desk full = Desk.everywhere("3");
        bounds.due("10 10 180", full.sheet.deleteRow(0) + " " + full.sheet.deleteRow(18) + " " + full.sheet.filled(),
            "a full sheet");
        bounds.limits(12, "- `row`: 0 to 19", 0, 19, CalculatedSheet::deleteRow);
        bounds.limits(12, "Throws `IllegalArgumentException` if row is out of range", 0, 19,
            CalculatedSheet::deleteRow);
    }

    private void deletingColumns() {
        bounds.promise(14, "Deletes a column.");
        bounds.promise(14, "Returns how many cells go away that are not empty.");
        int[][] due = {{0, 2}, {1, 0}, {5, 1}, {6, 0}, {8, 2}, {9, 1}};
        String[] then = {"-1 7 -1 187 54", "0 7 180 187 54", "0 7 180 187 -1", "0 7 180 187 55", "0 -1 180 -1 55",
            "0 8 180 188 55"};
        for (int place = 0; place < due.length; place++) {
            int column = due[place][0];
            Desk desk = corners();
            desk.sheet.setNumber(199, 6);
            bounds.due(due[place][1], desk.sheet.deleteColumn(column), "deleteColumn " + column);
            bounds.due(then[place] + " " + (column == 9 ? -1 : 198), places(desk) + " " + desk.sheet.find(6),
                "deleteColumn " + column);
            for (int row = 0; row < 20; row++) {
                bounds.yes(desk.sheet.isEmpty(10 * row + 9), "the last column is empty then");
            }
        }
        bounds.due(0, new CalculatedSheet().deleteColumn(0), "an empty sheet");
        Desk full = Desk.everywhere("3");
        bounds.due("20 20 160", full.sheet.deleteColumn(0) + " " + full.sheet.deleteColumn(8) + " "
            + full.sheet.filled(), "a full sheet");
        bounds.limits(14, "- `column`: 0 to 9", 0, 9, CalculatedSheet::deleteColumn);
        bounds.limits(14, "Throws `IllegalArgumentException` if column is out of range", 0, 9,
            CalculatedSheet::deleteColumn);
    }

    private interface OfSheet {
        int answer(CalculatedSheet sheet);
    }

    /** The text of a formula in the cell when the change was made; the cell to which the formula went is told. */
    private void changes(String name, String formula, OfSheet change, String then, String due) {
        Desk desk = new Desk().with(name, formula);
        change.answer(desk.sheet);
        bounds.due(due, desk.formula(then), name + " with " + formula);
    }

    /** Where an error was, what comes there has none. */
    private void overAnError() {
        bounds.promise(21, "Returns whether it has no error.");
        Scene.Call[] changes = {sheet -> sheet.copyBlock(0, 0, 11), sheet -> sheet.copyBlock(99, 99, 11),
            sheet -> sheet.moveCell(0, 11),
            sheet -> sheet.moveCell(99, 11), sheet -> sheet.insertRow(0), sheet -> sheet.insertRow(1),
            sheet -> sheet.deleteRow(1),
            sheet -> sheet.insertColumn(0), sheet -> sheet.insertColumn(1), sheet -> sheet.deleteColumn(1),
            sheet -> sheet.setNumber(11, 4),
            sheet -> sheet.clear(11), CalculatedSheet::runOrders, CalculatedSheet::goBack, CalculatedSheet::undo};
        String[] due = {"5", "0", "5", "0", "6", "0", "8", "7", "0", "9", "4", "0", "3", "0", "0"};
        for (int change = 0; change < changes.length; change++) {
            Desk desk = new Desk().with("A1", "5", "B1", "6", "A2", "7", "C2", "9", "B3", "8");
            desk.sheet.keep();
            desk.with("B2", "=1/0").write("B2:3;");
            bounds.due("DIVISION", desk.told("B2"), "the error ahead of change " + change);
            changes[change].on(desk.sheet);
            bounds.due(due[change], desk.told("B2"), "no error behind change " + change);
        }
    }

    private void referencesAlongLines() {
        bounds.terms("In all formulas references go along with their cells, with \"$\" or not.");
        changes("A1", "=A5+$A$5+A6+$A6+A$4", sheet -> sheet.insertRow(4), "A1", "=A6+$A$6+A7+$A7+A$4");
        changes("A1", "=A6+$A$6+A4+$A7+A$4", sheet -> sheet.deleteRow(4), "A1", "=A5+$A$5+A4+$A6+A$4");
        changes("A6", "=A1+A6+A19", sheet -> sheet.insertRow(0), "A7", "=A2+A7+A20");
        changes("A6", "=A2+A6+A20", sheet -> sheet.deleteRow(0), "A5", "=A1+A5+A19");
        bounds.terms("A reference to a cell that goes away, or would leave the sheet, is broken.");
        changes("A1", "=A4+A5+A6+$A$5", sheet -> sheet.deleteRow(4), "A1", "=A4+#REF+A5+#REF");
        changes("A2", "=A1+A2+$J$1", sheet -> sheet.deleteRow(0), "A1", "=#REF+A1+#REF");
        changes("A1", "=A19+A20+$J$20", sheet -> sheet.deleteRow(19), "A1", "=A19+#REF+#REF");
        changes("A1", "=A19+A20+$J$20", sheet -> sheet.insertRow(18), "A1", "=A20+#REF+#REF");
        changes("A1", "=A19+A20+$J$20", sheet -> sheet.insertRow(19), "A1", "=A19+#REF+#REF");
        changes("A1", "=A19+A20+$J$20", sheet -> sheet.insertRow(0), "A2", "=A20+#REF+#REF");
        bounds.terms("The same holds for columns.");
        changes("A1", "=E1+$E$1+F1+$F1+D$1", sheet -> sheet.insertColumn(4), "A1", "=F1+$F$1+G1+$G1+D$1");
        changes("A1", "=F1+$F$1+D1+$G1+D$1", sheet -> sheet.deleteColumn(4), "A1", "=E1+$E$1+D1+$F1+D$1");
        changes("A1", "=D1+E1+F1+$E$1", sheet -> sheet.deleteColumn(4), "A1", "=D1+#REF+E1+#REF");
        changes("B1", "=A1+B1+$A$20", sheet -> sheet.deleteColumn(0), "A1", "=#REF+A1+#REF");
        changes("A1", "=I1+J1+$J$20", sheet -> sheet.deleteColumn(9), "A1", "=I1+#REF+#REF");
        changes("A1", "=I1+J1+$J$20", sheet -> sheet.insertColumn(8), "A1", "=J1+#REF+#REF");
        changes("A1", "=I1+J1+$J$20", sheet -> sheet.insertColumn(9), "A1", "=I1+#REF+#REF");
        changes("A1", "=I1+J1+$J$20", sheet -> sheet.insertColumn(0), "B1", "=J1+#REF+#REF");
    }

    private void cornersAlongLines() {
        bounds.terms("Corners of ranges go along likewise; but a corner that would leave the sheet stays where it is; "
            + "and if the row of a corner is deleted, and the other corner is in another row, it goes to the row that "
            + "is next to it on the side of the other corner, as the rows are numbered then (so an upper corner keeps "
            + "its number, and a lower one becomes 1 less); if both corners are in the row that is deleted, the range "
            + "is broken.");
        changes("J1", "=SUM(A3:B5)+SUM($B$5:A3)", sheet -> sheet.insertRow(2), "J1", "=SUM(A4:B6)+SUM($B$6:A4)");
        changes("J1", "=SUM(A3:B5)+SUM($B$5:A3)", sheet -> sheet.insertRow(3), "J1", "=SUM(A3:B6)+SUM($B$6:A3)");
        changes("J1", "=SUM(A3:B5)+SUM($B$5:A3)", sheet -> sheet.insertRow(4), "J1", "=SUM(A3:B6)+SUM($B$6:A3)");
        changes("J1", "=SUM(A3:B5)+SUM($B$5:A3)", sheet -> sheet.insertRow(5), "J1", "=SUM(A3:B5)+SUM($B$5:A3)");
        changes("J1", "=SUM(A1:A20)+SUM($A$20:A20)", sheet -> sheet.insertRow(0), "J2", "=SUM(A2:A20)+SUM($A$20:A20)");
        changes("J1", "=SUM(A19:A20)+SUM(B20:A19)", sheet -> sheet.insertRow(18), "J1", "=SUM(A20:A20)+SUM(B20:A20)");
        changes("J1", "=SUM(A19:A20)+SUM(B20:A19)", sheet -> sheet.insertRow(19), "J1", "=SUM(A19:A20)+SUM(B20:A19)");
        changes("J1", "=SUM(A3:B5)+SUM($B$5:A3)", sheet -> sheet.deleteRow(1), "J1", "=SUM(A2:B4)+SUM($B$4:A2)");
        changes("J1", "=SUM(A3:B5)+SUM($B$5:A3)", sheet -> sheet.deleteRow(2), "J1", "=SUM(A3:B4)+SUM($B$4:A3)");
        changes("J1", "=SUM(A3:B5)+SUM($B$5:A3)", sheet -> sheet.deleteRow(3), "J1", "=SUM(A3:B4)+SUM($B$4:A3)");
        changes("J1", "=SUM(A3:B5)+SUM($B$5:A3)", sheet -> sheet.deleteRow(4), "J1", "=SUM(A3:B4)+SUM($B$4:A3)");
        changes("J1", "=SUM(A3:B5)+SUM($B$5:A3)", sheet -> sheet.deleteRow(5), "J1", "=SUM(A3:B5)+SUM($B$5:A3)");
        changes("J1", "=SUM(A3:A4)+SUM(B4:A3)", sheet -> sheet.deleteRow(2), "J1", "=SUM(A3:A3)+SUM(B3:A3)");
        changes("J1", "=SUM(A3:A4)+SUM(B4:A3)", sheet -> sheet.deleteRow(3), "J1", "=SUM(A3:A3)+SUM(B3:A3)");
        changes("J1", "=SUM(A3:B3)+SUM($A$3:A3)+SUM(A4:B4)", sheet -> sheet.deleteRow(2), "J1",
            "=SUM(#REF)+SUM(#REF)+SUM(A3:B3)");
        changes("J5", "=SUM(A1:A2)+SUM(A1:B1)", sheet -> sheet.deleteRow(0), "J4", "=SUM(A1:A1)+SUM(#REF)");
        changes("J5", "=SUM(A19:A20)+SUM(A20:B20)+SUM(A20:A1)", sheet -> sheet.deleteRow(19), "J5",
            "=SUM(A19:A19)+SUM(#REF)+SUM(A19:A1)");
        changes("A9", "=SUM(C2:E1)+SUM($E$1:C1)", sheet -> sheet.insertColumn(2), "A9", "=SUM(D2:F1)+SUM($F$1:D1)");
        changes("A9", "=SUM(C2:E1)+SUM($E$1:C1)", sheet -> sheet.insertColumn(5), "A9", "=SUM(C2:E1)+SUM($E$1:C1)");
        changes("A9", "=SUM(A1:J1)+SUM($J1:J9)", sheet -> sheet.insertColumn(0), "B9", "=SUM(B1:J1)+SUM($J1:J9)");
        changes("A9", "=SUM(I1:J1)+SUM(J2:I1)", sheet -> sheet.insertColumn(8), "A9", "=SUM(J1:J1)+SUM(J2:J1)");
        changes("A9", "=SUM(I1:J1)+SUM(J2:I1)", sheet -> sheet.insertColumn(9), "A9", "=SUM(I1:J1)+SUM(J2:I1)");
        changes("A9", "=SUM(C2:E1)+SUM($E$1:C1)", sheet -> sheet.deleteColumn(1), "A9", "=SUM(B2:D1)+SUM($D$1:B1)");
        changes("A9", "=SUM(C2:E1)+SUM($E$1:C1)", sheet -> sheet.deleteColumn(2), "A9", "=SUM(C2:D1)+SUM($D$1:C1)");
        changes("A9", "=SUM(C2:E1)+SUM($E$1:C1)", sheet -> sheet.deleteColumn(4), "A9", "=SUM(C2:D1)+SUM($D$1:C1)");
        changes("A9", "=SUM(C1:C9)+SUM($C$3:C3)+SUM(D1:D2)", sheet -> sheet.deleteColumn(2), "A9",
            "=SUM(#REF)+SUM(#REF)+SUM(C1:C2)");
        changes("B9", "=SUM(A1:B1)+SUM(A1:A2)", sheet -> sheet.deleteColumn(0), "A9", "=SUM(A1:A1)+SUM(#REF)");
        changes("B9", "=SUM(I1:J1)+SUM(J1:J2)+SUM(J1:A1)", sheet -> sheet.deleteColumn(9), "B9",
            "=SUM(I1:I1)+SUM(#REF)+SUM(I1:A1)");
    }

    private void runningOrders() {
        bounds.terms("Each one enters this content into this cell (an empty one makes it empty), one after the other.");
        bounds.promise(15, "Carries the orders of the pad out. The pad does not change.");
        Desk desk = new Desk().with("B1", "9").write("A1:5;B1:;J20:=A1;A1:-6;");
        desk.sheet.runOrders();
        bounds.due("-6 true -6 2", desk.value("A1") + " " + desk.sheet.isEmpty(1) + " " + desk.value("J20") + " "
            + desk.sheet.filled(), "runOrders");
        desk.sheet.clear(0);
        desk.sheet.runOrders();
        bounds.due("-6 23", desk.value("A1") + " " + desk.sheet.clearPad(), "the pad stays");
        bounds.promise(15, "Returns how many orders there are.");
        bounds.due(0, new CalculatedSheet().runOrders(), "none");
        bounds.due(1, new Desk().write("A1:;").sheet.runOrders(), "one");
        bounds.due(15, new Desk().write("A1:;".repeat(15)).sheet.runOrders(), "as many as the pad takes");
        Desk last = new Desk().write("A1:;".repeat(13) + "J20:=A1;");
        bounds.due("14 =A1", last.sheet.runOrders() + " " + last.formula("J20"), "the last one, too");
        Desk emptied = new Desk().with("C1", "=B1", "B1", "=7").write("A1:5;B1:;J20:-3;J19:;");
        emptied.sheet.runOrders();
        bounds.due("0 0 5 -3 0", emptied.value("B1") + " " + emptied.value("C1") + " " + emptied.sheet.rowTotal(0) + " "
            + emptied.sheet.columnTotal(9) + " " + emptied.value("J19"),
            "a cell that becomes empty behind a number is 0");
        bounds.promise(15, FAULTY + "orders");
        for (String[] pad : new String[][] {{"A1:5;B1:=", "2;"}, {"A1:5", ";"}, {"=A1", ""}, {"A1:5;;", ""},
            {"A1:7;B1:8;K1:9;", ""},
            {"A1:;".repeat(14) + "A1:5", ""}}) {
            bounds.refuses(Bounds.STATE, Scene.busy(pad[0], pad[1]), CalculatedSheet::runOrders, pad[0]);
        }
    }

    private static Desk chainOfThree() {
        return new Desk().with("A1", "=B1", "B1", "=C1+SUM(D1:D2)", "C1", "=5");
    }

    private void goingBack() {
        bounds.promise(16, "Goes back to the snapshot, which stays.");
        Desk desk = new Desk().with("A1", "5", "B1", "=A1");
        desk.sheet.keep();
        String kept = desk.look();
        for (int time = 0; time < 6; time++) {
            desk.sheet.setNumber(0, time);
            desk.sheet.setNumber(10 + time, time);
            desk.sheet.goBack();
            bounds.due(kept, desk.look(), "the time " + time);
        }
        Desk links = chainOfThree();
        links.sheet.keep();
        String dependence = links.lookAtDependence();
        links.with("B1", "5", "A1", "=J20", "C1", "=C1", "J20", "=A2");
        links.sheet.goBack();
        bounds.due(dependence, links.lookAtDependence(), "what depends on what, too");
        bounds.promise(16, "Returns how many cells are not empty then.");
        Desk empty = new Desk();
        empty.sheet.keep();
        empty.with("A1", "1");
        bounds.due(0, empty.sheet.goBack(), "an empty snapshot");
        Desk full = Desk.full("7");
        full.sheet.keep();
        full.sheet.deleteRow(0);
        bounds.due(200, full.sheet.goBack(), "a full snapshot");
        bounds.promise(16, "Throws `IllegalStateException` if there is no snapshot");
        Scene without = new Scene("", () -> new Desk().with("A1", "5").write("=A1"));
        bounds.refuses(Bounds.STATE, without, CalculatedSheet::goBack, "goBack");
        bounds.refuses(Bounds.STATE, new Scene("", Desk::new), CalculatedSheet::goBack, "goBack of a new object");
    }

    private void keeping() {
        bounds.promise(17, "Takes a snapshot of everything except the pad, and the records, in place of the one "
            + "before.");
        Desk desk = new Desk().with("A1", "5", "B1", "=A1");
        desk.sheet.keep();
        desk.with("A1", "6");
        desk.sheet.keep();
        desk.with("A1", "7").write("=8");
        desk.sheet.goBack();
        bounds.due("6 6 1 2", desk.value("A1") + " " + desk.value("B1") + " " + desk.sheet.latestComputed() + " "
            + desk.sheet.clearPad(), "the latest snapshot, but the pad");
        Desk records = new Desk().with("A1", "1", "A1", "2");
        records.sheet.keep();
        bounds.due("1 1", records.sheet.undo() + " " + records.value("A1"),
            "keep is not recorded, and leaves the records");
        records.sheet.goBack();
        bounds.due("2 1 1", records.value("A1") + " " + records.sheet.undo() + " " + records.value("A1"),
            "the records are not in the snapshot");
        bounds.promise(17, "Returns how many cells are not empty.");
        bounds.due("0 200", new CalculatedSheet().keep() + " " + Desk.full("7").sheet.keep(),
            "the least, and the most");
    }

    private void undoing() {
        bounds.promise(18, "Brings back the latest recorded state, which is forgotten then. The pad and the snapshot "
            + "do not change.");
        Desk desk = new Desk().with("A1", "1", "B1", "=A1", "A1", "2");
        desk.sheet.keep();
        desk.with("A1", "3").write("=77");
        desk.sheet.undo();
        bounds.due("2 2", desk.value("A1") + " " + desk.value("B1"), "the latest one");
        desk.sheet.undo();
        bounds.due("1 1", desk.value("A1") + " " + desk.value("B1"), "the one before");
        desk.sheet.enter(5);
        bounds.due("77 3", desk.value("F1") + " " + desk.sheet.clearPad(), "the pad stays");
        desk.sheet.goBack();
        bounds.due("2 true", desk.value("A1") + " " + desk.sheet.isEmpty(5), "the snapshot stays");
        Desk links = chainOfThree();
        String dependence = links.lookAtDependence();
        links.with("B1", "5", "A1", "=J20", "C1", "=C1", "J20", "=A2");
        String then = "";
        for (int step = 0; step < 4; step++) {
            then = links.sheet.undo() + " " + links.lookAtDependence();
        }
        bounds.due("0 " + dependence, then, "what depends on what, too");
        bounds.promise(18, "Returns how many states are recorded then.");
        Desk four = new Desk().with("A1", "1", "A1", "2", "A1", "3", "A1", "4");
        bounds.due("3 2 1 0", four.sheet.undo() + " " + four.sheet.undo() + " " + four.sheet.undo() + " "
            + four.sheet.undo(), "undo");
        bounds.promise(18, "Throws `IllegalStateException` if no state is recorded");
        bounds.refuses(Bounds.STATE, new Scene("", Desk::new), CalculatedSheet::undo, "undo of a new object");
        Scene undone = new Scene("", () -> {
            Desk one = new Desk().with("A1", "1");
            one.sheet.keep();
            one.sheet.undo();
            return one.write("=A1");
        });
        bounds.refuses(Bounds.STATE, undone, CalculatedSheet::undo, "undo behind the last one");
    }

    private void recording() {
        bounds.terms("The changes are enter, setNumber, clear, copyBlock, moveCell, insertRow, deleteRow, "
            + "insertColumn, deleteColumn, runOrders and goBack, if they throw nothing.");
        Scene.Call[] changes = {sheet -> sheet.enter(7), sheet -> sheet.setNumber(0, 5), sheet -> sheet.clear(99),
            sheet -> sheet.copyBlock(0, 0, 0), sheet -> sheet.moveCell(98, 97), sheet -> sheet.insertRow(19),
            sheet -> sheet.deleteRow(19),
            sheet -> sheet.insertColumn(9), sheet -> sheet.deleteColumn(9), CalculatedSheet::runOrders,
            CalculatedSheet::goBack};
        for (int change = 0; change < changes.length; change++) {
            Desk desk = new Desk();
            desk.sheet.keep();
            changes[change].on(desk.sheet);
            bounds.due("0", Checks.outcome(desk.sheet::undo), "change " + change
                + " is recorded, though nothing differs");
            bounds.due(Bounds.STATE, Checks.outcome(desk.sheet::undo), "change " + change + " is recorded once");
        }
        Scene.Call[] others = {sheet -> sheet.type('1'), CalculatedSheet::clearPad, CalculatedSheet::contentFault,
            CalculatedSheet::ordersFault,
            CalculatedSheet::keep, sheet -> sheet.valueByAsking(1), sheet -> sheet.valueIf(0, 1, 1),
            sheet -> sheet.numberFor(0, 1, 3),
            sheet -> sheet.errorsWithout(0), sheet -> sheet.value(0), sheet -> sheet.chain(1),
            CalculatedSheet::meanValue};
        for (int other = 0; other < others.length; other++) {
            Desk desk = new Desk();
            others[other].on(desk.sheet);
            bounds.due(Bounds.STATE, Checks.outcome(desk.sheet::undo), "call " + other + " is not recorded");
        }
        bounds.terms("Before a change, the state is recorded: everything except the pad, the snapshot, and the records "
            + "themselves.");
        for (int change = 0; change < changes.length; change++) {
            Desk desk = corners().with("B1", "=A1", "C1", "=C1", "D1", "=1/0").write("");
            desk.sheet.keep();
            desk.sheet.setNumber(0, 7);
            String before = desk.look();
            changes[change].on(desk.sheet);
            desk.sheet.undo();
            bounds.due(before, desk.look(), "the state ahead of change " + change);
        }
        recordingAtMostFour();
    }

    private void recordingAtMostFour() {
        bounds.terms("At most 4 states are recorded; when a fifth one is recorded, the oldest one is forgotten.");
        for (int changes = 0; changes <= 10; changes++) {
            Desk desk = new Desk();
            for (int change = 1; change <= changes; change++) {
                desk.sheet.setNumber(0, change);
            }
            int recorded = Math.min(changes, 4);
            for (int step = 1; step <= recorded; step++) {
                bounds.due(recorded - step, desk.sheet.undo(), changes + " changes, undo " + step);
                bounds.due(changes - step, desk.value("A1"), changes + " changes, undo " + step);
            }
            bounds.due(Bounds.STATE, Checks.outcome(desk.sheet::undo), changes + " changes, no more");
        }
        Desk mixed = new Desk().with("A1", "1", "A1", "2", "A1", "3", "A1", "4", "A1", "5");
        mixed.sheet.undo();
        mixed.sheet.undo();
        mixed.with("A1", "6", "A1", "7", "A1", "8");
        String told = mixed.value("A1") + "";
        for (int step = 0; step < 4; step++) {
            told += " " + mixed.sheet.undo() + ":" + mixed.value("A1");
        }
        bounds.due("8 3:7 2:6 1:3 0:2", told, "undo between changes");
        bounds.due(Bounds.STATE, Checks.outcome(mixed.sheet::undo), "undo between changes, no more");
    }

    private void throwing() {
        bounds.terms("A method that throws an exception changes nothing.");
        bounds.refusesState(sheet -> sheet.insertRow(0), "insertRow");
        bounds.refusesState(sheet -> sheet.insertColumn(0), "insertColumn");
        bounds.refusesState(sheet -> sheet.value(2), "value");
        bounds.refusesState(sheet -> sheet.chain(3), "chain");
        bounds.refusesArgument(sheet -> sheet.deleteRow(20), "deleteRow");
        bounds.terms("If both an IllegalArgumentException and an IllegalStateException apply, the "
            + "IllegalArgumentException is thrown.");
        Scene full = Scene.busy("=" + "(".repeat(59), "");
        bounds.refuses(Bounds.ARGUMENT, full, sheet -> sheet.type(127), "type");
        bounds.refuses(Bounds.ARGUMENT, full, sheet -> sheet.enter(200), "enter");
        bounds.refusesArgument(sheet -> sheet.copyBlock(1, 10, 199), "copyBlock");
        bounds.refusesArgument(sheet -> sheet.copyBlock(0, 11, 200), "copyBlock");
        bounds.refusesArgument(sheet -> sheet.insertRow(20), "insertRow");
        bounds.refusesArgument(sheet -> sheet.insertColumn(10), "insertColumn");
        bounds.refusesArgument(sheet -> sheet.valueIf(0, 1000000, 2), "valueIf of a cell with an error");
        bounds.refusesArgument(sheet -> sheet.valueIf(-1, 0, 2), "valueIf of a cell with an error");
        Scene errors = new Scene("", () -> Desk.everywhere("=1/0").write("1"));
        bounds.refuses(Bounds.ARGUMENT, errors, sheet -> sheet.value(200), "value where all cells have an error");
        bounds.refuses(Bounds.ARGUMENT, errors, sheet -> sheet.valueByAsking(200),
            "valueByAsking where all cells have an error");
        bounds.refuses(Bounds.ARGUMENT, errors, sheet -> sheet.chain(200), "chain where all cells have an error");
        bounds.refuses(Bounds.ARGUMENT, errors, sheet -> sheet.valueIf(0, 1, 200),
            "valueIf where all cells have an error");
    }
}
