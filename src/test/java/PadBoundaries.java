/** The edges of the sheet's names, of the pad, of contents and orders as texts: promises 1 to 5. */
final class PadBoundaries {
    private static final String FULL_CONTENT = "=1" + "+1".repeat(29);

    private final Bounds bounds;

    PadBoundaries(Bounds bounds) {
        this.bounds = bounds;
    }

    void test() {
        cellsAndTheirNames();
        kindsOfCells();
        thePad();
        contentsAndComparisons();
        sumsProductsFactors();
        referencesAndCalls();
        arguments();
        columnsRowsDigits();
        blanks();
        ranges();
        faultsOfContents();
        faultsOfOrders();
        aNewObject();
        typing();
        clearingThePad();
        askingForFaults();
    }

    private void cellsAndTheirNames() {
        bounds.terms("The sheet has 20 rows (0 to 19) with 10 columns (0 to 9).");
        CalculatedSheet sheet = new CalculatedSheet();
        for (int row = 0; row < 20; row++) {
            bounds.due(0L, sheet.rowTotal(row), "the row " + row);
        }
        for (int column = 0; column < 10; column++) {
            bounds.due(0L, sheet.columnTotal(column), "the column " + column);
        }
        for (int line : new int[] {-1, 20}) {
            bounds.refusesArgument(one -> one.rowTotal(line), "the row " + line);
        }
        for (int line : new int[] {-1, 10}) {
            bounds.refusesArgument(one -> one.columnTotal(line), "the column " + line);
        }
        bounds.terms("The cell in the row r and the column c has the number 10 * r + c: cells are numbered from 0 to "
            + "199, row by row.");
        for (int cell = 0; cell < 200; cell++) {
            CalculatedSheet one = new CalculatedSheet();
            one.setNumber(cell, 7);
            bounds.due("7 7 " + cell, one.rowTotal(cell / 10) + " " + one.columnTotal(cell % 10) + " " + one.find(7),
                "the cell " + cell);
        }
        bounds.refusesArgument(one -> one.setNumber(-1, 7), "the cell -1");
        bounds.refusesArgument(one -> one.setNumber(200, 7), "the cell 200");
        bounds.terms("In texts the columns are \"A\" to \"J\" and the rows \"1\" to \"20\": the cell 0 is \"A1\", the "
            + "cell 199 is \"J20\".");
        for (int cell = 0; cell < 199; cell++) {
            Desk desk = new Desk().with("J20", "=" + Desk.name(cell));
            bounds.due(cell, desk.sheet.referenceAt(199, 0), "the name " + Desk.name(cell) + " is read");
            Desk moved = new Desk().with("J20", cell == 0 ? "=B1" : "=A1");
            moved.sheet.moveCell(cell == 0 ? 1 : 0, cell);
            bounds.due("=" + Desk.name(cell), moved.formula("J20"), "the name of " + cell + " is written");
        }
        bounds.due(199, new Desk().with("A1", "=J20").sheet.referenceAt(0, 0), "the name J20 is read");
        bounds.terms("\"Lower\" cells are those with lower numbers.");
        Desk desk = new Desk().with("A2", "=5", "J1", "=5");
        bounds.due("9 10", desk.sheet.orderAt(0) + " " + desk.sheet.orderAt(1), "J1 is lower than A2");
    }

    private static String kind(Desk desk) {
        return desk.sheet.isEmpty(0) + " " + desk.sheet.isFormula(0) + " " + desk.sheet.filled() + " "
            + desk.sheet.formulas();
    }

    private void kindsOfCells() {
        bounds.terms("A cell is empty, or has a number, or a formula.");
        Desk desk = new Desk();
        bounds.due("true false 0 0", kind(desk), "at first");
        desk.sheet.setNumber(0, 0);
        bounds.due("false false 1 0", kind(desk), "the number 0");
        desk.enter("A1", "=0");
        bounds.due("false true 1 1", kind(desk), "the formula =0");
        desk.enter("A1", "0");
        bounds.due("false false 1 0", kind(desk), "the content 0");
        desk.enter("A1", "-0");
        bounds.due("false false 1 0", kind(desk), "the content -0");
        bounds.terms("The empty content makes a cell empty.");
        desk.enter("A1", "");
        bounds.due("true false 0 0", kind(desk), "in place of a number");
        desk.with("A1", "=1", "A1", "");
        bounds.due("true false 0 0", kind(desk), "in place of a formula");
        desk.with("A1", "");
        bounds.due("true false 0 0", kind(desk), "in place of nothing");
        for (String before : new String[] {"5", "-999999", "=5", "=1/0", "=A1"}) {
            desk.with("A1", before, "B1", "=A1", "A1", "");
            bounds.due("true 0 0 0 0", desk.sheet.isEmpty(0) + " " + desk.told("A1") + " " + desk.sheet.rowTotal(0)
                + " " + desk.value("B1") + " " + desk.formula("A1").length(), "nothing is left of " + before);
        }
        bounds.terms("All values are whole numbers.");
        desk.with("A1", "=1/2", "B1", "=-1/2", "C1", "=7/2");
        bounds.due("0 -1 3", desk.value("A1") + " " + desk.value("B1") + " " + desk.value("C1"), "quotients");
    }

    private void thePad() {
        bounds.terms("The pad has at most 60 characters (none at first).");
        Desk desk = new Desk();
        bounds.due("-1 -1 0", desk.sheet.contentFault() + " " + desk.sheet.ordersFault() + " " + desk.sheet.clearPad(),
            "none at first");
        bounds.due(60, FULL_CONTENT.length(), "a content of 60 characters");
        bounds.due(1, desk.enter("A1", FULL_CONTENT), "it is entered whole");
        bounds.due(FULL_CONTENT, desk.formula("A1"), "it stands whole");
        bounds.due(30, desk.value("A1"), "it is computed whole");
        bounds.refuses(Bounds.STATE, Scene.busy(FULL_CONTENT, ""), sheet -> sheet.type('1'), "the character 61");
        bounds.due(59, desk.write(FULL_CONTENT.substring(0, 59)).sheet.contentFault(), "one character less");
        bounds.due(60, desk.sheet.type('2'), "the character 60");
        desk.sheet.enter(0);
        bounds.due(31, desk.value("A1"), "the last character counts");
    }

    /** Texts that are whole, then texts with their faults. */
    private void grammar(String line, String[] whole, Object... faulty) {
        bounds.terms(line);
        for (String text : whole) {
            Desk desk = new Desk();
            bounds.due(-1, desk.contentFault(text), text);
            Checks.outcome(() -> desk.sheet.enter(0));
            bounds.due(text.startsWith("=") ? text : "", desk.formula("A1"), text + " stands as it was entered");
        }
        for (int place = 0; place + 1 < faulty.length; place += 2) {
            contentFault((String) faulty[place], (int) faulty[place + 1]);
        }
    }

    private void contentFault(String text, int fault) {
        Desk desk = new Desk();
        bounds.due(fault, desk.contentFault(text), text);
        bounds.due(Bounds.STATE, Checks.outcome(() -> desk.sheet.enter(0)), text + " is not entered");
        bounds.due(0, desk.sheet.filled(), text + " is not entered");
    }

    private void contentsAndComparisons() {
        bounds.terms("The content of a cell is written like this:");
        bounds.due("-1 -1 -1", new Desk().contentFault("") + " " + new Desk().contentFault("-5") + " "
            + new Desk().contentFault("=5"), "nothing, a number, a formula");
        grammar("content = \"\" | [\"-\"] number | \"=\" comparison",
            new String[] {"", "0", "5", "-5", "=5"},
            "-", 1, "--5", 1, "+5", 0, "5-", 1, "5=", 1, "-=5", 1, "=", 1, "==5", 1, "(5)", 0, "A1", 0, "SUM(1)", 0,
            "$", 0, "<", 0, ",", 0);
        grammar("comparison = sum [ (\"<\" | \">\" | \"=\") sum ]",
            new String[] {"=1", "=1<2", "=1>2", "=1=2", "=(1<2)<(3<4)", "=1+2<3*4"},
            "=1<", 3, "=1>", 3, "=1=", 3, "=1<2<", 4, "=1=2>3", 4, "=1>2=3", 4, "=<1", 1, "=>1", 1, "=1<>2", 3,
            "=1<=2", 3, "=1>=2", 3, "=1==2", 3, "=(1<2>3)", 5, "=SUM(1<2<3)", 8, "=SUM(1,1<2<3)", 10,
            "=ABS(1<2=3)", 8, "=IF(1<2,3<4<5,6)", 11, "=1<(2<3)<4", 8);
    }

    private void sumsProductsFactors() {
        grammar("sum = product { (\"+\" | \"-\") product }",
            new String[] {"=1", "=1+2", "=1-2", "=1-2+3", FULL_CONTENT, "=1" + "-1".repeat(29), "=1--2"},
            "=1+", 3, "=1-", 3, "=1++2", 3, "=+1", 1, "=1-+2", 3, "=1+-", 4, "=1+-+", 4, "=1+)", 3, "=1+,", 3,
            "=1,2", 2, "=A1,", 3, "=1:", 2);
        grammar("product = factor { (\"*\" | \"/\") factor }",
            new String[] {"=1*2", "=1/2", "=1/2*3", "=1" + "*1".repeat(29), "=1" + "/1".repeat(29), "=1*-2"},
            "=*1", 1, "=/1", 1, "=1*", 3, "=1/", 3, "=1**2", 3, "=1*/2", 3, "=1//2", 3, "=1+*2", 3);
        grammar("factor = \"-\" factor | number | reference | call | \"(\" comparison \")\"",
            new String[] {"=-1", "=--1", "=" + "-".repeat(58) + "1", "=0", "=A1", "=-A1", "=ABS(1)", "=-ABS(1)", "=(1)",
                "=-(1)", "=(1<2)", "=((1))", "=" + "(".repeat(29) + "1" + ")".repeat(29)},
            "=-", 2, "=" + "-".repeat(59), 60, "=()", 2, "=(", 2, "=(1", 3, "=(1))", 4, "=((1)", 5, "=)", 1, "=-+1", 2,
            "=(1)(2)", 4, "=(1)2", 4, "=1(2)", 2, "=1A1", 2, "=A1A1", 3, "=A1 ", 3, "=A1(", 3, "=(1,2)", 3,
            "=" + "(".repeat(29) + "1" + ")".repeat(28) + "+", 60, "=" + "(".repeat(28) + "1" + ")".repeat(29), 58);
    }

    private void referencesAndCalls() {
        grammar("reference = [\"$\"] column [\"$\"] row",
            new String[] {"=A1", "=$A1", "=A$1", "=$A$1", "=J20", "=$J$20"},
            "=$", 2, "=$$A1", 2, "=A$$1", 3, "=A1$", 3, "=A$1$", 4, "=$1", 2, "=A", 2, "=A$", 3, "=1A", 2, "=AA1", 2,
            "=$A", 3, "=$ABS(1)", 3, "=$-A1", 2);
        grammar("call = (\"SUM\" | \"MIN\" | \"MAX\" | \"COUNT\") \"(\" argument { \",\" argument } \")\"",
            new String[] {"=SUM(1)", "=MIN(1,2)", "=MAX(1,2,3)", "=COUNT(A1:B2,1)", "=SUM(" + "1,".repeat(26) + "12)"},
            "=SUM()", 5, "=SUM(,1)", 5, "=SUM(1,)", 7, "=SUM(1,,2)", 7, "=SUM(1", 6, "=SUM(1,", 7, "=SUM1", 4,
            "=SU(", 3, "=S(", 2, "=MINI(", 4, "=MAXX", 4, "=MI", 3, "=MA", 3, "=COUN(", 5, "=AVG(", 2, "=SUM", 4,
            "=sum(1)", 1, "=SUM)", 4, "=MIN(1))", 7, "=MAX()", 5, "=COUNT()", 7, "=MIN()", 5, "=COUNTS(", 6,
            "=SUM(1;2)", 6, "=ASUM(1)", 2, "=BSUM(1)", 2);
        grammar("| \"ABS\" \"(\" comparison \")\" | \"IF\" \"(\" comparison \",\" comparison \",\" comparison \")\"",
            new String[] {"=ABS(1)", "=ABS(1<2)", "=IF(1,2,3)", "=IF(1<2,2=2,3>1)",
                "=" + "ABS(".repeat(11) + "-1" + ")".repeat(11), "=" + "IF(".repeat(7) + "1" + ",1,1)".repeat(7)},
            "=ABS()", 5, "=ABS(1,2)", 6, "=ABS(1", 6, "=ABS(A1:B2)", 7, "=AB(", 3, "=IF()", 4, "=IF(1)", 5,
            "=IF(1,2)", 7, "=IF(1,2,)", 8, "=IF(1,2,3,4)", 9, "=IF(1,2,3", 9, "=IF(A1:B2,1,2)", 6,
            "=IF(1,A1:B2,2)", 8, "=IF(1,2,A1:B2)", 10, "=IF1", 3, "=IF(,1,2)", 4, "=IF", 3, "=IF(1,,2)", 6);
    }

    private void arguments() {
        grammar("argument = reference \":\" reference | comparison",
            new String[] {"=SUM(A1:A1)", "=SUM($A$1:B2)", "=SUM(A1:$B2)", "=SUM(A1)", "=SUM(1<2)",
                "=SUM(A1:B2,1,C3:D4)", "=SUM(1,A1:B2)", "=SUM(SUM(A1:B2),A1:B2)", "=MIN(A1:B2)", "=MAX(A1:B2)",
                "=COUNT(A1:B2)", "=SUM(A1+1,A1:B2)"},
            "=SUM(A1:)", 8, "=SUM(A1:B)", 9, "=SUM(A1:1)", 8, "=SUM(1:A1)", 6, "=SUM(A1:B2:C3)", 10,
            "=SUM(A1:B2+1)", 10, "=SUM(A1:B2<1)", 10, "=SUM(-A1:B2)", 8, "=SUM((A1:B2))", 8, "=SUM(A1+A2:B2)", 10,
            "=SUM(A1<A2:B2)", 10, "=A1:B2", 3, "=SUM(:B2)", 5, "=SUM(A1::B2)", 8, "=SUM((A1):B2)", 9,
            "=SUM(A1:(B2))", 8, "=SUM(A1:-B2)", 8, "=SUM(A1:B2", 10, "=SUM(1,-A1:B2)", 10, "=SUM(1,(A1:B2))", 10,
            "=SUM(A1:B21)", 10, "=SUM(A1:ABS(1))", 9, "=SUM(A1:K1)", 8);
    }

    private void columnsRowsDigits() {
        grammar("A column is a letter \"A\" to \"J\", a row a number from 1 to 20, a number has 1 to 6 digits; numbers "
            + "have no needless zeros ahead.",
            new String[] {"=A1", "=J1", "=A9", "=A10", "=A11", "=A19", "=A20", "=SUM(A1:J20)", "0", "9", "10", "999999",
                "100000", "-1", "-999999", "-0", "=0", "=999999", "=-999999", "=0+0", "=1+100000*999999"},
            "=@1", 1, "=K1", 1, "=Z1", 1, "=`1", 1, "=a1", 1, "=j1", 1, "=A", 2, "=A0", 2, "=A00", 2, "=A01", 2,
            "=A010", 2, "=A21", 3, "=A22", 3, "=A29", 3, "=A30", 3, "=A99", 3, "=A100", 4, "=A110", 4, "=A200", 4,
            "=A$0", 3, "=A$21", 4, "=A:", 2, "=A/", 2, "=$A$:1", 4, "=A1:", 3, "=SUM(A:B)", 6, "=SUM(A1:B:", 9,
            "=SUM(A1:A0)", 9, "=SUM(A1:A21)", 10, "1000000", 6, "9999999", 6, "-1000000", 7, "-9999999", 7,
            "=1000000", 7, "=1+1000000", 9, "=SUM(1000000)", 11, "00", 1, "01", 1, "-00", 2, "-01", 2, "=00", 2,
            "=01", 2, "=1+01", 4, "000000", 1, "1.0", 1, "1e3", 1, "12345678901", 6);
        bounds.terms("The pad can also be read as orders:");
        bounds.due("-1 0", new Desk().ordersFault("A1:=5;") + " " + new Desk().contentFault("A1:=5;"),
            "orders that are no content");
        bounds.due("0 -1", new Desk().ordersFault("=5") + " " + new Desk().contentFault("=5"),
            "a content that is no orders");
        bounds.terms("orders = { column row \":\" content \";\" }");
        Desk desk = new Desk();
        for (String text : new String[] {"", "A1:;", "J20:;", "A20:0;", "J1:=A1<B1;", "A1:-999999;", "A1:;".repeat(15),
            "A1:=1;A1:=2;"}) {
            bounds.due(-1, desk.ordersFault(text), text);
        }
        Object[][] faulty = {{"$A1:;", 0}, {"A$1:;", 1}, {"A", 1}, {"A1", 2}, {"A1:", 3}, {"A1;", 2}, {"A1:5", 4},
            {"A1::", 3}, {";", 0},
            {"A1:;;", 4}, {"@1:;", 0}, {"K1:;", 0}, {"A0:;", 1}, {"A01:;", 1}, {"A21:;", 2}, {"A100:;", 3}, {"A1:=1+;",
            6},
            {"A1:5;A1", 7}, {"A1:5;A", 6}, {"A1:5;5", 5}, {"A1:=A1:A2;", 6}, {"A1:=SUM(A1:A2;", 13}, {"A1:01;", 4},
            {"A1:1000000;", 9},
            {"A1:-;", 4}, {"A1:=;", 4}, {"A1=5;", 2}, {"5", 0}, {"=1", 0}, {"A1:A2:;", 3}, {"A1:=#REF;", 4}, {"AB1:;",
            1}, {"A:5;", 1}, {"A/:5;", 1},
            {"J:;", 1}};
        for (Object[] row : faulty) {
            bounds.due(row[1], desk.ordersFault((String) row[0]), (String) row[0]);
            bounds.due(Bounds.STATE, Checks.outcome(desk.sheet::runOrders), row[0] + " is not carried out");
        }
        bounds.due(0, desk.sheet.filled(), "nothing was carried out");
    }

    private void blanks() {
        bounds.terms("There are no blanks.");
        Desk desk = new Desk();
        for (String text : new String[] {"-12", "=SUM(A1:$B$2,-3)<IF(0,12,J20)"}) {
            for (int place = 0; place <= text.length(); place++) {
                String spoilt = text.substring(0, place) + " " + text.substring(place);
                bounds.due(place, desk.contentFault(spoilt), "a content with a blank at " + place);
            }
        }
        String orders = "A1:5;J20:=A1;";
        for (int place = 0; place <= orders.length(); place++) {
            String spoilt = orders.substring(0, place) + " " + orders.substring(place);
            bounds.due(place, desk.ordersFault(spoilt), "orders with a blank at " + place);
        }
    }

    private void ranges() {
        bounds.terms("Two references with \":\" between them are the corners of a range: it has all cells whose rows "
            + "and columns lie between those of the corners, or are the same, whichever corner is which.");
        Object[][] rows = {{"A1:A1", 1, 0, 0}, {"J20:J20", 1, 199, 199}, {"B2:C4", 6, 11, 32}, {"C4:B2", 6, 11, 32},
            {"B4:C2", 6, 11, 32},
            {"C2:B4", 6, 11, 32}, {"A1:J1", 10, 0, 9}, {"J1:A1", 10, 0, 9}, {"A1:A20", 20, 0, 190}, {"A20:A1", 20, 0,
            190},
            {"A1:J19", 190, 0, 189}, {"A20:J20", 10, 190, 199}, {"J1:J20", 20, 9, 199}, {"$I$20:J19", 4, 188, 199}};
        for (Object[] row : rows) {
            Desk desk = new Desk();
            int at = row[0].equals("A1:J19") ? 199 : 55;
            desk.enter(Desk.name(at), "=COUNT(" + row[0] + ")");
            bounds.due(row[1], desk.sheet.references(at), row[0] + ": how many cells");
            bounds.due(row[2], desk.sheet.referenceAt(at, 0), row[0] + ": the lowest cell");
            bounds.due(row[3], desk.sheet.referenceAt(at, (int) row[1] - 1), row[0] + ": the last cell");
            bounds.due(-1, desk.sheet.referenceAt(at, (int) row[1]), row[0] + ": no more");
        }
        for (String corners : new String[] {"A1:J20", "J20:A1", "A20:J1", "J1:A20"}) {
            bounds.due(200, new Desk().with("E5", "=COUNT(" + corners + ")").sheet.references(44), corners);
        }
        Desk desk = new Desk().with("B2", "1", "C2", "2", "B3", "4", "C3", "8", "A1", "16", "D4", "16", "A3", "16",
            "D2", "16");
        for (String corners : new String[] {"B2:C3", "C3:B2", "B3:C2", "C2:B3"}) {
            bounds.due(15, desk.valueOf("=SUM(" + corners + ")"), corners);
        }
    }

    private void faultsOfContents() {
        bounds.terms("The fault of the pad as a content is the index of the first character such that no content "
            + "begins with the characters up to and including it (however long such a content is).");
        contentFault(" ", 0);
        contentFault(" ".repeat(60), 0);
        contentFault("=1 + ", 2);
        contentFault("=1" + "+1".repeat(28) + "+ ", 59);
        contentFault("=" + "(".repeat(58) + ")", 59);
        contentFault("=" + "(".repeat(59), 60);
        contentFault("=" + "(".repeat(30) + "1" + ")".repeat(28), 60);
        contentFault("=" + "-".repeat(59), 60);
        contentFault("=" + "SUM(".repeat(14) + "SUM", 60);
        contentFault("=" + "SUM(".repeat(14) + "SUN", 59);
        contentFault("=" + "IF(".repeat(19) + "IF", 60);
        contentFault("=" + "1+".repeat(29) + "A", 60);
        contentFault("=" + "1+".repeat(29) + "K", 59);
        contentFault("=" + "1+".repeat(26) + "9999999", 59);
        bounds.due(-1, new Desk().contentFault("=" + "1+".repeat(26) + "99-9999"), "60 characters without a fault");
        bounds.terms("If there is no such character but the content is not complete, the fault is the length of the "
            + "pad.");
        String whole = "=IF(COUNT($A$1:B20,-(999999)/3)>5,MAX(1,SUM(J10)),ABS(0))";
        for (int length = 1; length < whole.length(); length++) {
            contentFault(whole.substring(0, length), length);
        }
        bounds.due(-1, new Desk().contentFault(whole), whole);
        for (int length = 1; length <= 60; length++) {
            contentFault("=" + "(".repeat(length - 1), length);
        }
    }

    private void faultsOfOrders() {
        bounds.terms("The fault of the pad as orders is found like that of a content; an empty pad has none.");
        Desk desk = new Desk();
        bounds.due(-1, desk.ordersFault(""), "an empty pad");
        bounds.due(-1, desk.ordersFault("A1:;".repeat(15)), "60 characters");
        bounds.due(60, desk.ordersFault("A1:;".repeat(14) + "A1:5"), "60 characters, not complete");
        bounds.due(60, desk.ordersFault("A1:=" + "(".repeat(56)), "60 characters that only more than 60 complete");
        bounds.due(59, desk.ordersFault("A1:;".repeat(14) + "A1:K"), "the last one of 60 characters");
        bounds.due(59, desk.ordersFault("A1:;".repeat(14) + "A1:"), "59 characters, not complete");
        bounds.due(0, desk.ordersFault("~" + "A1:;".repeat(14)), "the first character");
        bounds.due(4, desk.ordersFault("A1:;~A1:;~"), "the first one of two faults");
        String orders = "A1:=SUM(A2:$B$20,-3);B10:;J20:-999999;";
        for (int length = 0; length <= orders.length(); length++) {
            boolean whole = length == 0 || orders.charAt(length - 1) == ';';
            bounds.due(whole ? -1 : length, desk.ordersFault(orders.substring(0, length)), orders.substring(0, length));
        }
        bounds.terms("(This cannot be entered.)");
        contentFault("#REF", 0);
        contentFault("=#REF", 1);
        contentFault("=SUM(#REF)", 5);
        contentFault("=1+#REF", 3);
        contentFault("=SUM(A1:#REF)", 8);
    }

    private void aNewObject() {
        bounds.promise(1, "Creates an empty sheet.");
        CalculatedSheet sheet = new CalculatedSheet();
        for (int cell = 0; cell < 200; cell++) {
            bounds.yes(sheet.isEmpty(cell), "the cell " + cell + " is empty");
        }
        bounds.due("0 0 0 0 0", sheet.filled() + " " + sheet.formulas() + " " + sheet.errors() + " "
            + sheet.latestComputed() + " " + sheet.allComputed(), "the counts");
        bounds.due(-1, sheet.orderAt(0), "the order");
        bounds.due(Bounds.STATE, Checks.outcome(sheet::undo), "nothing is recorded");
        bounds.due(Bounds.STATE, Checks.outcome(sheet::goBack), "no snapshot");
        CalculatedSheet other = new CalculatedSheet();
        other.setNumber(0, 5);
        bounds.yes(sheet.isEmpty(0), "two objects have nothing in common");
    }

    private void typing() {
        bounds.promise(2, "Appends a character to the pad.");
        Desk desk = new Desk();
        desk.sheet.type('1');
        desk.sheet.type('2');
        desk.sheet.enter(0);
        bounds.due(12, desk.value("A1"), "behind those that are there");
        desk.sheet.clear(0);
        bounds.limits(2, "- `character`: 32 to 126", 32, 126, (sheet, character) -> sheet.type(character));
        bounds.promise(2, "Returns the length of the pad.");
        CalculatedSheet sheet = new CalculatedSheet();
        for (int character = 32; character <= 126; character++) {
            if (character == 92) {
                bounds.due(60, sheet.clearPad(), "60 characters were typed");
            }
            bounds.due(character < 92 ? character - 31 : character - 91, sheet.type(character), "type " + character);
        }
        bounds.promise(2, "Throws `IllegalArgumentException` if character is out of range");
        for (int character : new int[] {31, 127, 0, '\n', 128, 160, 255, 65536 + 65, -191, -65}) {
            bounds.refusesArgument(one -> one.type(character), "type " + character);
        }
        bounds.promise(2, "Throws `IllegalStateException` if the pad has 60 characters");
        Scene full = Scene.busy(FULL_CONTENT, "");
        bounds.refuses(Bounds.STATE, full, one -> one.type(32), "type 32 onto a full pad");
        bounds.refuses(Bounds.STATE, full, one -> one.type(126), "type 126 onto a full pad");
        bounds.refuses(Bounds.ARGUMENT, full, one -> one.type(31), "type 31 onto a full pad");
        bounds.refuses(Bounds.ARGUMENT, full, one -> one.type(127), "type 127 onto a full pad");
        bounds.due("60", Scene.busy(FULL_CONTENT.substring(1), "").outcome(one -> one.type('1')),
            "type onto 59 characters");
        Desk emptied = new Desk().write(FULL_CONTENT);
        emptied.sheet.clearPad();
        bounds.due(1, emptied.sheet.type('1'), "type when the full pad was emptied");
    }

    private void clearingThePad() {
        bounds.promise(3, "Empties the pad.");
        Desk desk = new Desk().write("=A1+");
        desk.sheet.clearPad();
        bounds.due(-1, desk.sheet.contentFault(), "it is the empty content then");
        bounds.due(1, desk.sheet.type('3'), "the next character is the first one");
        bounds.due(0, desk.sheet.enter(0), "what was there before is gone");
        bounds.due(3, desk.value("A1"), "what was there before is gone");
        bounds.promise(3, "Returns the length that it had.");
        bounds.due(0, new CalculatedSheet().clearPad(), "an empty pad");
        bounds.due(1, new Desk().write("~").sheet.clearPad(), "one character");
        bounds.due(59, new Desk().write("~".repeat(59)).sheet.clearPad(), "59 characters");
        Desk full = new Desk().write("~".repeat(60));
        bounds.due(60, full.sheet.clearPad(), "a full pad");
        bounds.due(0, full.sheet.clearPad(), "again");
    }

    private void askingForFaults() {
        bounds.promise(4, "Returns the fault of the pad as a content.");
        bounds.due("", bounds.busy.changedBy(CalculatedSheet::contentFault), "asking changes nothing");
        bounds.due("", Scene.busy("=A1+", "1").changedBy(CalculatedSheet::contentFault), "asking changes nothing");
        bounds.promise(4, "Returns the fault; -1 if it has none.");
        bounds.due(-1, new Desk().contentFault(""), "an empty pad has none");
        bounds.due(-1, new Desk().contentFault(FULL_CONTENT), "a full pad has none");
        bounds.due(0, new Desk().contentFault("A1:5;"), "orders are no content");
        bounds.promise(5, "Returns the fault of the pad as orders.");
        bounds.due("", Scene.busy("A1:7;", "").changedBy(CalculatedSheet::ordersFault), "asking changes nothing");
        bounds.due("", Scene.busy("A1:7;B1:=", "3;").changedBy(CalculatedSheet::ordersFault), "asking changes nothing");
        bounds.promise(5, "Returns the fault; -1 if it has none.");
        bounds.due(-1, new Desk().ordersFault(""), "an empty pad has none");
        bounds.due(-1, new Desk().ordersFault("J20:=" + "1+".repeat(26) + "9;"), "a long order has none");
        bounds.due(0, new Desk().ordersFault("=A1"), "a content is no orders");
    }
}
