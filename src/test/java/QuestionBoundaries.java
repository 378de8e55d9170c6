/** The edges of what depends on what, of sums, and of what would be: promises 31 to 51. */
final class QuestionBoundaries {
    private static final String CELL = "- `cell`: 0 to 199";
    private static final String CELL_THROWS = "Throws `IllegalArgumentException` if cell is out of range";
    private static final String PLACE_THROWS = "Throws `IllegalArgumentException` if cell is out of range, or place is "
        + "below 0";

    private final Bounds bounds;

    QuestionBoundaries(Bounds bounds) {
        this.bounds = bounds;
    }

    void test() {
        referring();
        depending();
        rings();
        theOrder();
        askingForReferences();
        askingForDependents();
        askingForAllDependents();
        askingForDependence();
        askingForRings();
        askingForPlaces();
        askingForOrder();
        chains();
        counts();
        latestComputed();
        allComputed();
        columnTotals();
        rowTotals();
        meanValues();
        finding();
        valuesIf();
        numbersFor();
        numbersForCells();
        errorsWithout();
    }

    /** What stands for no cell is refused, what stands for the first one and the last one is not. */
    private void cells(int promise, Bounds.OfNumber call) {
        bounds.cells(promise, CELL, call);
        bounds.cells(promise, CELL_THROWS, call);
    }

    private static String referred(Desk desk, int cell) {
        String told = desk.sheet.references(cell) + ":";
        int count = desk.sheet.references(cell);
        for (int place = 0; place < count; place++) {
            told += " " + desk.sheet.referenceAt(cell, place);
        }
        return told;
    }

    private void referring() {
        bounds.terms("A formula refers to the cells of all its references and ranges that are not broken, whether they "
            + "are computed or not (also in parts of IF that are not).");
        Desk desk = new Desk().with("A2", "=IF(1,B1,C1)", "B2", "=IF(0,SUM(D1:E1),1)", "C2", "=1/0+J20", "D2",
            "=COUNT(A1:B1,A1)", "E2", "=5", "F2", "=J20-$J$20*J$20", "G2", "=G2");
        String[] due = {"2: 1 2", "2: 3 4", "1: 199", "2: 0 1", "0:", "1: 199", "1: 16"};
        for (int column = 0; column < due.length; column++) {
            bounds.due(due[column], referred(desk, 10 + column), desk.formula(10 + column));
        }
        Desk broken = new Desk().with("A5", "=A1+B2+SUM(A1:B1)+SUM(A1:B2)");
        broken.sheet.deleteRow(0);
        bounds.due("=#REF+B1+SUM(#REF)+SUM(A1:B1)", broken.formula("A4"), "a reference and a range are broken");
        bounds.due("2: 0 1", referred(broken, 30), "broken ones refer to nothing");
        broken.sheet.deleteRow(0);
        bounds.due("0:", referred(broken, 20), "all are broken");
    }

    private void depending() {
        bounds.terms("A cell depends on another one (or itself), if one can come from it to the other one by going "
            + "from a formula to a cell to which it refers, in one step or more.");
        Desk desk = new Desk().with("A1", "1", "B1", "=A1", "C1", "=B1", "D1", "=D1", "E1", "=IF(1,1,F1)", "F1", "=C1");
        bounds.yes(desk.sheet.dependsOn(1, 0), "one step");
        bounds.yes(desk.sheet.dependsOn(2, 0), "two steps");
        bounds.yes(desk.sheet.dependsOn(4, 0), "four steps, the first one in a part that is not computed");
        bounds.yes(desk.sheet.dependsOn(3, 3), "itself");
        bounds.no(desk.sheet.dependsOn(2, 2), "no step is not enough");
        bounds.no(desk.sheet.dependsOn(0, 0), "a number on itself");
        bounds.no(desk.sheet.dependsOn(0, 1), "the other way");
        bounds.no(desk.sheet.dependsOn(199, 199), "an empty cell on itself");
        desk.with("B1", "7");
        bounds.no(desk.sheet.dependsOn(2, 0), "a number between them");
        bounds.yes(desk.sheet.dependsOn(2, 1), "on the number");
        bounds.yes(Desk.full("=5").sheet.dependsOn(0, 199), "199 steps");
    }

    private void rings() {
        bounds.terms("A ring is a formula that depends on itself.");
        Desk desk = new Desk().with("A1", "=A1", "B1", "=C1", "C1", "=B1", "D1", "=B1", "E1", "=F1", "F1", "=1", "G1",
            "=SUM(A2:G1)", "H1", "=IF(0,H1,1)");
        String told = "";
        for (int cell = 0; cell < 9; cell++) {
            told += desk.sheet.isRing(cell) + " ";
        }
        bounds.due("true true true false false false true true false ", told, "A1 to I1");
        Desk full = Desk.full("=A1");
        for (int cell : new int[] {0, 9, 10, 100, 199}) {
            bounds.yes(full.sheet.isRing(cell), "a ring of 200 cells");
        }
        full.with("E5", "=1");
        bounds.no(full.sheet.isRing(0), "the ring of 200 cells is cut");
        bounds.terms("Each formula that depends on a ring, or is one, has the error CYCLE, and no other one.");
        Desk errors = new Desk().with("A1", "=A1", "B1", "=1/0+A1", "C1", "=A1+1/0", "D1", "=IF(1,2,A1)", "E1",
            "=COUNT(A1:A1)", "F1", "=D1", "G1", "=999999*999999+F1", "H1", "=MIN(A9:B9)+A1", "I1", "=J1");
        for (int cell = 0; cell < 8; cell++) {
            bounds.due("CYCLE", errors.told(cell), errors.formula(cell));
        }
        bounds.due("0", errors.told("I1"), "what does not depend on it");
        errors.sheet.clear(0);
        bounds.due("DIVISION", errors.told("B1"), "when the ring is gone");
        bounds.due("VALUES", errors.told("H1"), "when the ring is gone");
    }

    private static String order(Desk desk) {
        StringBuilder told = new StringBuilder();
        for (int place = 0; desk.sheet.orderAt(place) >= 0; place++) {
            told.append(' ').append(desk.sheet.orderAt(place));
        }
        return told.toString();
    }

    private void theOrder() {
        bounds.terms("The order: all formulas without the error CYCLE, where always the lowest one comes next of those "
            + "for which all formulas to which they refer came already.");
        bounds.due("", order(new Desk()), "an empty sheet");
        bounds.due(" 0 199", order(new Desk().with("J20", "=1", "A1", "=2")), "the lowest one first");
        bounds.due(" 199 0", order(new Desk().with("J20", "=1", "A1", "=J20")), "unless it waits");
        bounds.due(" 2 1 0 3", order(new Desk().with("A1", "=B1", "B1", "=C1", "C1", "=5", "D1", "=6")),
            "the lowest of those that wait no more");
        bounds.due(" 1 0 3 2", order(new Desk().with("A1", "=B1", "B1", "=5", "C1", "=D1", "D1", "=1")),
            "one that is lower comes next");
        bounds.due(" 3", order(new Desk().with("A1", "=A1", "B1", "=A1", "C1", "=1+B1", "D1", "=1")),
            "rings and what depends on them are left out");
        bounds.due(" 1 0", order(new Desk().with("A1", "=1/B1", "B1", "=1/0")), "other errors have their places");
        bounds.due(" 0 1", order(new Desk().with("A1", "=C1", "B1", "=A1", "C1", "5")), "nothing waits for a number");
        bounds.due(" 1 0", order(new Desk().with("A1", "=IF(1,2,B1)", "B1", "=5")),
            "parts that are not computed count");
        StringBuilder back = new StringBuilder();
        for (int cell = 199; cell >= 0; cell--) {
            back.append(' ').append(cell);
        }
        bounds.due(back.toString(), order(Desk.full("=5")), "the longest order, from the last cell to the first one");
    }

    private void askingForReferences() {
        bounds.promise(31, "Returns to how many different cells a formula refers.");
        bounds.promise(31, "Returns how many; 0 if the cell has no formula.");
        Desk desk = new Desk().with("A1", "7", "B1", "=5", "C1", "=A1", "D1", "=A1+A1+$A$1+SUM(A1:A1)", "E1",
            "=COUNT(A1:J20)", "F1", "=A1+J20", "G1", "=SUM(A1:B2,B2:C3)");
        bounds.due("0 0 1 1 200 2 7 0", desk.sheet.references(0) + " " + desk.sheet.references(1) + " "
            + desk.sheet.references(2) + " " + desk.sheet.references(3) + " " + desk.sheet.references(4) + " "
            + desk.sheet.references(5) + " " + desk.sheet.references(6) + " " + desk.sheet.references(199),
            "references");
        desk.sheet.clear(4);
        bounds.due(0, desk.sheet.references(4), "when the formula is gone");
        cells(31, CalculatedSheet::references);
        bounds.promise(32, "Returns a cell to which a formula refers.");
        bounds.promise(32, "Returns the cell; -1 if there are not so many.");
        desk.with("H1", "=COUNT(A1:J20)");
        bounds.due("0 63 64 127 128 191 192 199 -1", desk.sheet.referenceAt(7, 0) + " " + desk.sheet.referenceAt(7, 63)
            + " " + desk.sheet.referenceAt(7, 64) + " " + desk.sheet.referenceAt(7, 127) + " "
            + desk.sheet.referenceAt(7, 128) + " " + desk.sheet.referenceAt(7, 191) + " " + desk.sheet.referenceAt(7,
            192) + " " + desk.sheet.referenceAt(7, 199) + " " + desk.sheet.referenceAt(7, 200),
            "a formula that refers to all cells");
        bounds.due("0 199 -1 -1", desk.sheet.referenceAt(5, 0) + " " + desk.sheet.referenceAt(5, 1) + " "
            + desk.sheet.referenceAt(5, 2) + " " + desk.sheet.referenceAt(5, Bounds.GREATEST),
            "a formula that refers to two cells");
        bounds.due("-1 -1 -1", desk.sheet.referenceAt(0, 0) + " " + desk.sheet.referenceAt(1, 0) + " "
            + desk.sheet.referenceAt(199, 0), "a number, a formula without references, nothing");
        bounds.due("6: 0 1 10 11 12 21", referred(new Desk().with("J1", "=B2+SUM(A1:B2)+C2+B3"), 9),
            "the lowest one first");
        bounds.cells(32, CELL, (sheet, cell) -> sheet.referenceAt(cell, 0));
        bounds.places(32, "- `place`: 0 for the lowest one, and so on", (sheet, place) -> sheet.referenceAt(1, place));
        bounds.places(32, PLACE_THROWS, (sheet, place) -> sheet.referenceAt(199, place));
        bounds.refusesArgument(sheet -> sheet.referenceAt(200, 0), "a wrong cell");
        bounds.refusesArgument(sheet -> sheet.referenceAt(99, -1), "a wrong place where no formula is");
        bounds.refusesArgument(sheet -> sheet.referenceAt(-1, -1), "a wrong cell and a wrong place");
    }

    private void askingForDependents() {
        bounds.promise(33, "Returns how many formulas refer to a cell.");
        bounds.promise(33, "Returns how many.");
        Desk desk = new Desk().with("A1", "=A1", "B1", "=A1+A1", "C1", "=B1", "J20", "=SUM(A1:B1)");
        bounds.due("3 2 0 0 0", desk.sheet.dependents(0) + " " + desk.sheet.dependents(1) + " "
            + desk.sheet.dependents(2) + " " + desk.sheet.dependents(3) + " " + desk.sheet.dependents(199),
            "dependents");
        bounds.due(0, new CalculatedSheet().dependents(0), "an empty sheet");
        bounds.due("200 0", Desk.everywhere("=$A$1").sheet.dependents(0) + " "
            + Desk.everywhere("=$A$1").sheet.dependents(199), "all formulas");
        bounds.due("200", Desk.everywhere("=$J$20").sheet.dependents(199) + "", "all formulas");
        cells(33, CalculatedSheet::dependents);
    }

    private void askingForAllDependents() {
        bounds.promise(34, "Returns how many formulas depend on a cell (itself, too, if it is a ring).");
        bounds.promise(34, "Returns how many.");
        Desk desk = new Desk().with("A1", "=B1", "B1", "=A1", "C1", "=B1", "D1", "5", "E1", "=D1", "F1", "=E1+D1");
        bounds.due("3 3 0 2 1 0", desk.sheet.allDependents(0) + " " + desk.sheet.allDependents(1) + " "
            + desk.sheet.allDependents(2) + " " + desk.sheet.allDependents(3) + " " + desk.sheet.allDependents(4) + " "
            + desk.sheet.allDependents(5), "allDependents");
        Desk chain = Desk.full("=1");
        bounds.due("0 1 199", chain.sheet.allDependents(0) + " " + chain.sheet.allDependents(1) + " "
            + chain.sheet.allDependents(199), "a chain");
        Desk ring = Desk.full("=A1");
        bounds.due("200 200", ring.sheet.allDependents(0) + " " + ring.sheet.allDependents(199), "a ring of all cells");
        bounds.due(0, new CalculatedSheet().allDependents(199), "an empty sheet");
        bounds.due("1", new Desk().with("A1", "=A1").sheet.allDependents(0) + "", "a ring of one cell");
        cells(34, CalculatedSheet::allDependents);
    }

    private void askingForDependence() {
        bounds.promise(35, "Tells whether a cell depends on another one, or itself.");
        bounds.promise(35, "Returns whether it does.");
        Desk chain = Desk.full("=1");
        bounds.due("true true false false false", chain.sheet.dependsOn(0, 199) + " " + chain.sheet.dependsOn(0, 1)
            + " " + chain.sheet.dependsOn(199, 0) + " " + chain.sheet.dependsOn(0, 0) + " " + chain.sheet.dependsOn(1,
            0), "a chain");
        Desk ring = Desk.full("=A1");
        bounds.due("true true true", ring.sheet.dependsOn(0, 0) + " " + ring.sheet.dependsOn(199, 0) + " "
            + ring.sheet.dependsOn(1, 0), "a ring");
        bounds.cells(35, CELL, (sheet, cell) -> sheet.dependsOn(cell, 0));
        bounds.cells(35, "- `other`: 0 to 199", (sheet, other) -> sheet.dependsOn(1, other));
        bounds.promise(35, "Throws `IllegalArgumentException` if cell or other is out of range");
        bounds.refusesArgument(sheet -> sheet.dependsOn(200, 0), "a wrong cell");
        bounds.refusesArgument(sheet -> sheet.dependsOn(0, 200), "a wrong other one");
        bounds.refusesArgument(sheet -> sheet.dependsOn(-1, -1), "both are wrong");
    }

    private void askingForRings() {
        bounds.promise(36, "Tells whether a cell is a ring.");
        bounds.promise(36, "Returns whether it depends on itself.");
        Desk desk = new Desk().with("A1", "=A1", "J20", "=J19", "J19", "=J20", "B1", "=A1", "C1", "5", "D1", "=C1");
        bounds.due("true true true false false false false", desk.sheet.isRing(0) + " " + desk.sheet.isRing(199) + " "
            + desk.sheet.isRing(189) + " " + desk.sheet.isRing(1) + " " + desk.sheet.isRing(2) + " "
            + desk.sheet.isRing(3) + " " + desk.sheet.isRing(4), "isRing");
        cells(36, CalculatedSheet::isRing);
    }

    private void askingForPlaces() {
        bounds.promise(37, "Returns the place of a formula in the order.");
        bounds.promise(37, "Returns the place, from 0; -1 if the cell has no formula, or the error CYCLE.");
        Desk desk = new Desk().with("A1", "=B1", "B1", "=5", "C1", "=C1", "D1", "=C1", "E1", "7", "J20", "=1/0");
        bounds.due("1 0 -1 -1 -1 -1 2", desk.sheet.placeInOrder(0) + " " + desk.sheet.placeInOrder(1) + " "
            + desk.sheet.placeInOrder(2) + " " + desk.sheet.placeInOrder(3) + " " + desk.sheet.placeInOrder(4) + " "
            + desk.sheet.placeInOrder(5) + " " + desk.sheet.placeInOrder(199), "placeInOrder");
        Desk full = Desk.full("=5");
        bounds.due("199 0 198 1", full.sheet.placeInOrder(0) + " " + full.sheet.placeInOrder(199) + " "
            + full.sheet.placeInOrder(1) + " " + full.sheet.placeInOrder(198), "the first place and the last one");
        full.with("J20", "=A1");
        bounds.due("-1 -1", full.sheet.placeInOrder(0) + " " + full.sheet.placeInOrder(199), "all are a ring");
        cells(37, CalculatedSheet::placeInOrder);
    }

    private void askingForOrder() {
        bounds.promise(38, "Returns the formula at a place of the order.");
        bounds.promise(38, "Returns the cell; -1 if there are not so many.");
        Desk full = Desk.full("=5");
        bounds.due("199 198 0 -1 -1", full.sheet.orderAt(0) + " " + full.sheet.orderAt(1) + " "
            + full.sheet.orderAt(199) + " " + full.sheet.orderAt(200) + " " + full.sheet.orderAt(Bounds.GREATEST),
            "a full sheet");
        full.with("J20", "=A1");
        bounds.due("-1 -1", full.sheet.orderAt(0) + " " + full.sheet.orderAt(199), "a ring of all cells");
        Desk one = new Desk().with("J20", "=5");
        bounds.due("199 -1 -1", one.sheet.orderAt(0) + " " + one.sheet.orderAt(1) + " " + one.sheet.orderAt(199),
            "one formula");
        bounds.due("-1 -1", new CalculatedSheet().orderAt(0) + " " + new CalculatedSheet().orderAt(Bounds.GREATEST),
            "an empty sheet");
        bounds.places(38, "- `place`: 0 or more", CalculatedSheet::orderAt);
        bounds.places(38, "Throws `IllegalArgumentException` if place is below 0", CalculatedSheet::orderAt);
        bounds.refuses(Bounds.ARGUMENT, new Scene("", Desk::new), sheet -> sheet.orderAt(-1),
            "orderAt -1 in an empty sheet");
    }

    private void chains() {
        bounds.promise(39, "Returns the length of the longest chain of formulas that ends with a cell, each referring "
            + "to the one before it.");
        Desk desk = new Desk().with("A1", "7", "B1", "=A1", "C1", "=B1", "D1", "=B1+C1", "E1", "=SUM(A1:D1)+B1", "F1",
            "=1/0", "G1", "=F1", "H1", "=A9", "I1", "=I1", "J1", "=E1+I1");
        bounds.due("1 2 3 4 1 2 1", desk.sheet.chain(1) + " " + desk.sheet.chain(2) + " " + desk.sheet.chain(3) + " "
            + desk.sheet.chain(4) + " " + desk.sheet.chain(5) + " " + desk.sheet.chain(6) + " " + desk.sheet.chain(7),
            "chain");
        bounds.promise(39, "Returns how many formulas the chain has, this one among them; 0 if the cell has no "
            + "formula.");
        bounds.due("0 0 0", desk.sheet.chain(0) + " " + desk.sheet.chain(88) + " " + new CalculatedSheet().chain(199),
            "no formula");
        Desk full = Desk.full("=5");
        bounds.due("200 199 1", full.sheet.chain(0) + " " + full.sheet.chain(1) + " " + full.sheet.chain(199),
            "a chain of all cells");
        full.with("J20", "5");
        bounds.due("199 0", full.sheet.chain(0) + " " + full.sheet.chain(199),
            "a number at its beginning does not count");
        cells(39, CalculatedSheet::chain);
        bounds.promise(39, "Throws `IllegalStateException` if it has the error CYCLE");
        Scene scene = new Scene("", () -> new Desk().with("A1", "=A1", "B1", "=A1+1/0", "C1", "=1/0").write("=1"));
        bounds.refuses(Bounds.STATE, scene, sheet -> sheet.chain(0), "chain of a ring");
        bounds.refuses(Bounds.STATE, scene, sheet -> sheet.chain(1), "chain of what depends on a ring");
        bounds.due("1", scene.outcome(sheet -> sheet.chain(2)), "chain of another error");
        bounds.refuses(Bounds.ARGUMENT, scene, sheet -> sheet.chain(200), "chain of a wrong cell");
    }

    private static String count(CalculatedSheet sheet) {
        return sheet.filled() + " " + sheet.formulas() + " " + sheet.errors();
    }

    private void counts() {
        bounds.promise(40, "Returns how many cells are not empty.");
        bounds.promise(40, "Returns how many.");
        bounds.promise(41, "Returns how many cells have a formula.");
        bounds.promise(41, "Returns how many.");
        bounds.promise(42, "Returns how many cells have an error.");
        bounds.promise(42, "Returns how many.");
        bounds.due("0 0 0", count(new CalculatedSheet()), "an empty sheet");
        bounds.due("1 0 0", count(new Desk().with("A1", "0").sheet), "a number");
        bounds.due("1 1 0", count(new Desk().with("J20", "=0").sheet), "a formula");
        bounds.due("1 1 1", count(new Desk().with("J20", "=1/0").sheet), "an error");
        bounds.due("200 0 0", count(Desk.everywhere("3").sheet), "numbers everywhere");
        bounds.due("200 200 0", count(Desk.full("=5").sheet), "formulas everywhere");
        bounds.due("200 200 200", count(Desk.full("=1/0").sheet), "errors everywhere");
        bounds.due("200 200 200", count(Desk.full("=A1").sheet), "a ring everywhere");
        Desk cleared = Desk.full("=1/0");
        cleared.sheet.clear(199);
        bounds.due("199 199 0", count(cleared.sheet), "but one");
        bounds.due("5 5 5", count(new Desk().with("A1", "=1/0", "B1", "=999999*999999", "C1", "=MIN(J1:J2)", "D1",
            "=D1", "E1", "=A1").sheet), "errors of all kinds");
    }

    private void latestComputed() {
        bounds.promise(43, "Returns how many formulas were computed by the latest change that computes (goBack and "
            + "undo bring back what was told then).");
        Desk desk = Desk.full("=5");
        desk.sheet.setNumber(199, 6);
        bounds.due(199, desk.sheet.latestComputed(), "the latest change");
        desk.sheet.keep();
        desk.sheet.clear(0);
        bounds.due(0, desk.sheet.latestComputed(), "a change that computes none");
        desk.sheet.goBack();
        bounds.due(199, desk.sheet.latestComputed(), "goBack brings back what was told then");
        desk.sheet.undo();
        bounds.due(0, desk.sheet.latestComputed(), "undo brings back what was told then");
        desk.sheet.undo();
        bounds.due(199, desk.sheet.latestComputed(), "undo brings back what was told then");
        bounds.due(Bounds.ARGUMENT, Checks.outcome(() -> desk.sheet.setNumber(200, 1)), "a change that throws");
        bounds.due(199, desk.sheet.latestComputed(), "a change that throws is none");
        bounds.promise(43, "Returns how many; 0 if there was none.");
        bounds.due(0, new CalculatedSheet().latestComputed(), "no change");
        Desk first = new Desk();
        first.sheet.keep();
        first.with("A1", "=5");
        bounds.due(1, first.sheet.latestComputed(), "the first change");
        first.sheet.goBack();
        bounds.due(0, first.sheet.latestComputed(), "there was none then");
        first.sheet.undo();
        first.sheet.undo();
        bounds.due(0, first.sheet.latestComputed(), "there was none then");
    }

    private void allComputed() {
        bounds.promise(44, "Returns how many formulas were computed so far.");
        bounds.promise(44, "Returns how many.");
        bounds.due(0, new CalculatedSheet().allComputed(), "none");
        Desk desk = new Desk().with("A1", "=5", "B1", "=A1");
        bounds.due(2, desk.sheet.allComputed(), "two");
        desk.enter("A1", "=6");
        bounds.due(4, desk.sheet.allComputed(), "each one that was computed again");
        desk.sheet.setNumber(50, 1);
        bounds.due(4, desk.sheet.allComputed(), "no more");
        desk.sheet.insertRow(19);
        bounds.due(6, desk.sheet.allComputed(), "all formulas");
        desk.sheet.undo();
        bounds.due(4, desk.sheet.allComputed(), "as it was recorded");
        Desk most = Desk.full("=5");
        int before = most.sheet.allComputed();
        for (int change = 0; change < 400; change++) {
            most.sheet.copyBlock(0, 0, 0);
        }
        bounds.due(before + 80000, most.sheet.allComputed(), "many");
    }

    /** The greatest value in every cell. */
    private static Desk greatest(String sign) {
        return Desk.everywhere("=" + sign + "333667*2997");
    }

    private void columnTotals() {
        bounds.promise(45, "Returns the sum of the values of a column, cells with an error left out.");
        bounds.promise(45, "Returns the sum.");
        bounds.due("19999999980 -19999999980", greatest("").sheet.columnTotal(0) + " "
            + greatest("-").sheet.columnTotal(9), "the greatest sums");
        Desk desk = new Desk().with("A1", "5", "A20", "-2", "A7", "=1/0", "B20", "=A1", "J1", "=1/0", "J20", "4", "C2",
            "=C2");
        bounds.due("3 5 0 0 4", desk.sheet.columnTotal(0) + " " + desk.sheet.columnTotal(1) + " "
            + desk.sheet.columnTotal(2) + " " + desk.sheet.columnTotal(3) + " " + desk.sheet.columnTotal(9),
            "columnTotal");
        bounds.due(0L, Desk.everywhere("=1/0").sheet.columnTotal(4), "errors alone");
        bounds.due(0L, new CalculatedSheet().columnTotal(0), "an empty sheet");
        bounds.limits(45, "- `column`: 0 to 9", 0, 9, CalculatedSheet::columnTotal);
        bounds.limits(45, "Throws `IllegalArgumentException` if column is out of range", 0, 9,
            CalculatedSheet::columnTotal);
    }

    private void rowTotals() {
        bounds.promise(46, "Returns the sum of the values of a row, cells with an error left out.");
        bounds.promise(46, "Returns the sum.");
        bounds.due("9999999990 -9999999990", greatest("").sheet.rowTotal(0) + " " + greatest("-").sheet.rowTotal(19),
            "the greatest sums");
        Desk desk = new Desk().with("A1", "5", "J1", "-2", "E1", "=1/0", "J2", "=A1", "A3", "=A3", "A20", "=1/0", "J20",
            "4");
        bounds.due("3 5 0 0 4", desk.sheet.rowTotal(0) + " " + desk.sheet.rowTotal(1) + " " + desk.sheet.rowTotal(2)
            + " " + desk.sheet.rowTotal(3) + " " + desk.sheet.rowTotal(19), "rowTotal");
        bounds.due(0L, Desk.everywhere("=1/0").sheet.rowTotal(4), "errors alone");
        bounds.due(0L, new CalculatedSheet().rowTotal(0), "an empty sheet");
        bounds.limits(46, "- `row`: 0 to 19", 0, 19, CalculatedSheet::rowTotal);
        bounds.limits(46, "Throws `IllegalArgumentException` if row is out of range", 0, 19, CalculatedSheet::rowTotal);
    }

    private void meanValues() {
        bounds.promise(47, "Returns the mean value of the cells that are not empty and have no error.");
        Desk desk = new Desk().with("A1", "0");
        bounds.due(0.0, desk.sheet.meanValue(), "the number 0");
        for (String content : new String[] {"7", "-999999", "=5"}) {
            Desk one = new Desk().with("J20", content);
            bounds.due((double) one.value("J20"), one.sheet.meanValue(), content + " alone");
        }
        desk.with("J20", "1");
        bounds.due(0.5, desk.sheet.meanValue(), "a number that is 0 counts");
        desk.with("B1", "=J20-5");
        bounds.due(-1.0, desk.sheet.meanValue(), "a formula counts");
        desk.with("C1", "=1/0", "D1", "=D1");
        bounds.due(-1.0, desk.sheet.meanValue(), "errors do not");
        bounds.promise(47, "Returns the sum of their values, divided by their number; 0.0 without any.");
        bounds.due(0.0, new CalculatedSheet().meanValue(), "an empty sheet");
        bounds.due(0.0, new Desk().with("A1", "=1/0").sheet.meanValue(), "an error alone");
        bounds.due(0.0, Desk.everywhere("=1/0").sheet.meanValue(), "errors alone");
        bounds.due(-1.0 / 3.0, new Desk().with("A1", "-1", "A2", "0", "A3", "0").sheet.meanValue(), "a fraction");
        bounds.due(999999999.0, greatest("").sheet.meanValue(), "the greatest one");
        bounds.due(-999999999.0, greatest("-").sheet.meanValue(), "the least one");
        Desk half = greatest("").with("A1", "=333667*2997-1");
        bounds.due(199999999799.0 / 200.0, half.sheet.meanValue(), "a great sum that is no whole number of times 200");
    }

    private void finding() {
        bounds.promise(48, "Finds a value.");
        bounds.promise(48, "Returns the lowest cell that is not empty and has this value; -1 if there is none.");
        bounds.due("-1 -1", new CalculatedSheet().find(0) + " " + new CalculatedSheet().find(5), "an empty sheet");
        Desk desk = new Desk().with("J20", "0");
        bounds.due(199, desk.sheet.find(0), "the last cell");
        desk.with("C1", "=1/0", "D1", "=D1");
        bounds.due(199, desk.sheet.find(0), "errors are passed over");
        desk.with("A2", "=0", "J1", "=0");
        bounds.due(9, desk.sheet.find(0), "the lowest one");
        desk.with("A1", "0");
        bounds.due(0, desk.sheet.find(0), "the first cell");
        desk.with("B2", "=999999*1000+999", "C2", "=-B2");
        bounds.due("11 12", desk.sheet.find(999999999) + " " + desk.sheet.find(-999999999),
            "the greatest value, and the least one");
        bounds.promise(48, "- `value`: any number");
        for (int value : new int[] {1000000000, -1000000000, Bounds.LEAST, Bounds.GREATEST, -1, 1}) {
            bounds.due(-1, desk.sheet.find(value), "find " + value);
        }
    }

    private void valuesIf() {
        bounds.promise(49, "Tells the value of a cell, if another one (or itself) had a number.");
        bounds.promise(49, "Returns the value.");
        Desk desk = new Desk().with("B1", "=A1*2", "C1", "=10/A1", "D1", "=E1", "E1", "=D1", "F1", "=MIN(A9:B9)", "J20",
            "=A1+B1");
        bounds.due("14 21 7 0 5", desk.sheet.valueIf(0, 7, 1) + " " + desk.sheet.valueIf(0, 7, 199) + " "
            + desk.sheet.valueIf(0, 7, 0) + " " + desk.sheet.valueIf(0, 7, 88) + " " + desk.sheet.valueIf(1, 5, 199),
            "valueIf");
        bounds.due("3 3 6", desk.sheet.valueIf(4, 3, 3) + " " + desk.sheet.valueIf(4, 3, 4) + " "
            + desk.sheet.valueIf(80, 6, 5), "what has an error has a value then");
        bounds.due("0 0", desk.sheet.valueIf(199, 8, 0) + " " + desk.sheet.valueIf(0, 0, 1),
            "the number 0, and a cell that does not depend on it");
        bounds.due("", bounds.busy.changedBy(sheet -> sheet.valueIf(0, 9, 1)), "asking changes nothing");
        bounds.due(7, Desk.full("=5").sheet.valueIf(199, 7, 0), "through all cells");
        bounds.promise(49, "- `cell`: 0 to 199: the cell that would have the number");
        bounds.cells(49, CELL, (sheet, cell) -> sheet.valueIf(cell, 1, 0));
        bounds.limits(49, "- `number`: -999999 to 999999", -999999, 999999, (sheet, number) -> sheet.valueIf(0,
            number, 1));
        bounds.due("999999 -999999 1999998", desk.sheet.valueIf(0, 999999, 0) + " " + desk.sheet.valueIf(0, -999999, 0)
            + " " + desk.sheet.valueIf(0, 999999, 1), "the greatest number, and the least one");
        bounds.promise(49, "- `asked`: 0 to 199: the cell whose value is asked");
        bounds.cells(49, "- `asked`: 0 to 199", (sheet, asked) -> sheet.valueIf(0, 1, asked));
        bounds.promise(49, "Throws `IllegalArgumentException` if an argument is out of range");
        bounds.refusesArgument(sheet -> sheet.valueIf(200, 1000000, 200), "all are wrong");
        bounds.refusesArgument(sheet -> sheet.valueIf(0, 1000000, 2), "a wrong number, and an error");
        bounds.refusesArgument(sheet -> sheet.valueIf(-1, 0, 2), "a wrong cell, and an error");
        bounds.promise(49, "Throws `IllegalStateException` if it would have an error");
        bounds.refusesState(sheet -> sheet.valueIf(0, 1, 2), "it has an error all the same");
        bounds.refusesState(sheet -> sheet.valueIf(0, 1, 3), "a ring all the same");
        Scene scene = new Scene("", () -> new Desk().with("A1", "5", "B1", "=10/A1", "C1", "=A1*A1", "D1",
            "=MIN(A9:B9)").write("=1"));
        bounds.refuses(Bounds.STATE, scene, sheet -> sheet.valueIf(0, 0, 1), "a division by 0 then");
        bounds.refuses(Bounds.STATE, scene, sheet -> sheet.valueIf(0, 999999, 2), "a size then");
        bounds.refuses(Bounds.STATE, scene, sheet -> sheet.valueIf(0, 999999, 3), "no values all the same");
        bounds.due("10 998001 2", scene.outcome(sheet -> sheet.valueIf(0, 1, 1)) + " "
            + scene.outcome(sheet -> sheet.valueIf(0, 999, 2)) + " " + scene.outcome(sheet -> sheet.valueIf(3, 2, 3)),
            "no error then");
    }

    private void numbersFor() {
        bounds.promise(50, "Tells with which number in a cell another one (or itself) would have a value.");
        bounds.promise(50, "Returns the least number from 0 to 50 with which it would; -1 if there is none.");
        Desk desk = new Desk().with("A1", "7", "B1", "=A1*2", "C1", "=A1/20", "D1", "=100/A1", "E1", "=F1", "F1", "=E1",
            "G1", "=A1=50", "H1", "=A1<50", "I1", "=A1*A1", "J1", "=1/0");
        bounds.due("0 1 50 -1 -1 -1 -1", desk.sheet.numberFor(0, 1, 0) + " " + desk.sheet.numberFor(0, 1, 2) + " "
            + desk.sheet.numberFor(0, 1, 100) + " " + desk.sheet.numberFor(0, 1, 102) + " " + desk.sheet.numberFor(0, 1,
            -2) + " " + desk.sheet.numberFor(0, 1, 1) + " " + desk.sheet.numberFor(0, 1, 101),
            "the first number, the last one, and beyond");
        bounds.due("0 20 40 -1", desk.sheet.numberFor(0, 2, 0) + " " + desk.sheet.numberFor(0, 2, 1) + " "
            + desk.sheet.numberFor(0, 2, 2) + " " + desk.sheet.numberFor(0, 2, 3), "the least one of some");
        bounds.due("1 34 -1", desk.sheet.numberFor(0, 3, 100) + " " + desk.sheet.numberFor(0, 3, 2) + " "
            + desk.sheet.numberFor(0, 3, 0), "a number with which there is an error is passed over");
        bounds.due("50 50 0", desk.sheet.numberFor(0, 6, 1) + " " + desk.sheet.numberFor(0, 7, 0) + " "
            + desk.sheet.numberFor(0, 6, 0), "only the last one");
        bounds.due("50 49 -1", desk.sheet.numberFor(0, 8, 2500) + " " + desk.sheet.numberFor(0, 8, 2401) + " "
            + desk.sheet.numberFor(0, 8, 2601), "squares");
        bounds.due("0 50 -1 -1", desk.sheet.numberFor(0, 0, 0) + " " + desk.sheet.numberFor(0, 0, 50) + " "
            + desk.sheet.numberFor(0, 0, 51) + " " + desk.sheet.numberFor(0, 0, -1), "the cell itself");
        bounds.due("0 -1 0 -1", desk.sheet.numberFor(99, 1, 14) + " " + desk.sheet.numberFor(99, 1, 13) + " "
            + desk.sheet.numberFor(0, 99, 0) + " " + desk.sheet.numberFor(0, 99, 1),
            "a cell that does not depend on it");
        bounds.due("-1 -1 3 3", desk.sheet.numberFor(0, 9, 0) + " " + desk.sheet.numberFor(0, 4, 0) + " "
            + desk.sheet.numberFor(4, 5, 3) + " " + desk.sheet.numberFor(9, 9, 3),
            "errors that stay, and errors that go");
        bounds.due(50, Desk.full("=5").sheet.numberFor(199, 0, 50), "through all cells");
        bounds.due("", bounds.busy.changedBy(sheet -> sheet.numberFor(0, 1, 6)), "asking changes nothing");
    }

    private void numbersForCells() {
        bounds.promise(50, "- `cell`: 0 to 199: the cell that would have the number");
        bounds.cells(50, CELL, (sheet, cell) -> sheet.numberFor(cell, 0, 5));
        bounds.promise(50, "- `asked`: 0 to 199: the cell that would have the value");
        bounds.cells(50, "- `asked`: 0 to 199", (sheet, asked) -> sheet.numberFor(0, asked, 5));
        bounds.promise(50, "- `value`: any number");
        Desk desk = new Desk().with("B1", "=A1-25", "C1", "=333667*2997-50+A1", "D1", "=0-C1");
        for (int value : new int[] {Bounds.LEAST, Bounds.GREATEST, 1000000000, -1000000000}) {
            bounds.due(-1, desk.sheet.numberFor(0, 1, value), "numberFor " + value);
        }
        bounds.due("50 50 0 0 50", desk.sheet.numberFor(0, 2, 999999999) + " " + desk.sheet.numberFor(0, 3, -999999999)
            + " " + desk.sheet.numberFor(0, 2, 999999949) + " " + desk.sheet.numberFor(0, 1, -25) + " "
            + desk.sheet.numberFor(0, 1, 25), "great values");
        bounds.promise(50, "Throws `IllegalArgumentException` if cell or asked is out of range");
        bounds.refusesArgument(sheet -> sheet.numberFor(200, 0, 0), "a wrong cell");
        bounds.refusesArgument(sheet -> sheet.numberFor(0, 200, 0), "a wrong cell that is asked");
        bounds.refusesArgument(sheet -> sheet.numberFor(-1, -1, Bounds.GREATEST), "both are wrong");
    }

    private void errorsWithout() {
        bounds.promise(51, "Tells how many cells would have an error, if a cell was empty.");
        bounds.promise(51, "Returns how many.");
        bounds.due(0, new CalculatedSheet().errorsWithout(0), "an empty sheet");
        bounds.due("199 199", Desk.everywhere("=1/0").sheet.errorsWithout(0) + " "
            + Desk.everywhere("=1/0").sheet.errorsWithout(199), "errors everywhere");
        bounds.due(0, Desk.full("=A1").sheet.errorsWithout(100), "a ring of all cells");
        bounds.due("0 199", Desk.full("=1/0").sheet.errorsWithout(199) + " " + Desk.full("=1/0").sheet.errorsWithout(0),
            "errors from one cell");
        Desk full = Desk.everywhere("=1/$A$1").with("A1", "1");
        bounds.due("0 199 0", full.sheet.errors() + " " + full.sheet.errorsWithout(0) + " "
            + full.sheet.errorsWithout(1), "a divisor of all cells");
        Desk desk = new Desk().with("A1", "5", "B1", "=1/A1", "C1", "=C1", "D1", "=MIN(E1:E2)", "E1", "7", "F1",
            "=MAX(A1:A1)");
        bounds.due("3 1 0 2 1 1", desk.sheet.errorsWithout(0) + " " + desk.sheet.errorsWithout(1) + " "
            + desk.sheet.errorsWithout(2) + " " + desk.sheet.errorsWithout(4) + " " + desk.sheet.errorsWithout(3) + " "
            + desk.sheet.errorsWithout(199), "errorsWithout");
        bounds.due("", bounds.busy.changedBy(sheet -> sheet.errorsWithout(0)), "asking changes nothing");
        bounds.due("", bounds.busy.changedBy(sheet -> sheet.errorsWithout(2)), "asking changes nothing");
        cells(51, CalculatedSheet::errorsWithout);
    }
}
