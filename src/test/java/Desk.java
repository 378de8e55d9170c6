/** A sheet with shorter ways to write into it and to look at it. */
final class Desk {
    final CalculatedSheet sheet = new CalculatedSheet();

    /** A chain through the whole sheet: each cell refers to the next one, the last one has the content. */
    static Desk full(String last) {
        Desk desk = new Desk().with("A1", "=B1", "B1", "=C1");
        desk.sheet.copyBlock(0, 1, 2);
        desk.sheet.copyBlock(0, 3, 4);
        desk.sheet.copyBlock(0, 0, 8);
        desk.with("J1", "=A2");
        for (int row = 1; row < 20; row++) {
            desk.sheet.copyBlock(0, 9, 10 * row);
        }
        return desk.with("J20", last);
    }

    /** The same content in every cell. */
    static Desk everywhere(String content) {
        Desk desk = new Desk().with("A1", content);
        for (int column = 1; column < 10; column++) {
            desk.sheet.copyBlock(0, 0, column);
        }
        for (int row = 1; row < 20; row++) {
            desk.sheet.copyBlock(0, 9, 10 * row);
        }
        return desk;
    }

    static String name(int cell) {
        return (char) ('A' + cell % 10) + String.valueOf(cell / 10 + 1);
    }

    static int at(String name) {
        return 10 * (Integer.parseInt(name.substring(1)) - 1) + name.charAt(0) - 'A';
    }

    /** Puts the text onto the pad, in place of what was there. */
    Desk write(String text) {
        sheet.clearPad();
        for (int place = 0; place < text.length(); place++) {
            sheet.type(text.charAt(place));
        }
        return this;
    }

    int enter(String name, String content) {
        write(content);
        return sheet.enter(at(name));
    }

    /** Enters contents: a name, a content, a name, and so on. */
    Desk with(String... parts) {
        for (int place = 0; place + 1 < parts.length; place += 2) {
            enter(parts[place], parts[place + 1]);
        }
        return this;
    }

    int value(String name) {
        return sheet.value(at(name));
    }

    int valueOf(String formula) {
        enter("J20", formula);
        return value("J20");
    }

    int contentFault(String text) {
        return write(text).sheet.contentFault();
    }

    int ordersFault(String text) {
        return write(text).sheet.ordersFault();
    }

    String formula(String name) {
        return formula(at(name));
    }

    String formula(int cell) {
        StringBuilder text = new StringBuilder();
        int length = sheet.formulaLength(cell);
        for (int place = 0; place < length; place++) {
            text.append((char) sheet.formulaCharacter(cell, place));
        }
        return text.toString();
    }

    /** A word for what the cell has: its value, or its error. */
    String told(String name) {
        return told(at(name));
    }

    String told(int cell) {
        String told = "";
        told += sheet.isDivision(cell) ? "DIVISION" : "";
        told += sheet.isTooGreat(cell) ? "SIZE" : "";
        told += sheet.isBroken(cell) ? "REFERENCE" : "";
        told += sheet.isWithoutValues(cell) ? "VALUES" : "";
        told += sheet.isCyclic(cell) ? "CYCLE" : "";
        told += sheet.hasValue(cell) ? sheet.value(cell) : "";
        return told;
    }

    /** What can be seen of the cells and the counts. */
    String look() {
        StringBuilder seen = new StringBuilder();
        for (int cell = 0; cell < 200; cell++) {
            if (!sheet.isEmpty(cell)) {
                seen.append(cell).append(' ').append(formula(cell)).append(' ').append(told(cell)).append('\n');
            }
        }
        seen.append(sheet.filled()).append(' ').append(sheet.formulas()).append(' ').append(sheet.errors());
        seen.append(' ').append(sheet.latestComputed()).append(' ').append(sheet.allComputed());
        for (int place = 0; sheet.orderAt(place) >= 0; place++) {
            seen.append(' ').append(sheet.orderAt(place));
        }
        return seen.append('\n').toString();
    }

    /** What can be seen of the dependence of some cells. */
    String lookAtDependence() {
        String seen = sheet.formulas() + " ";
        for (int cell : new int[] {0, 1, 2, 3, 13, 199}) {
            seen += sheet.references(cell) + " " + sheet.referenceAt(cell, 0) + " " + sheet.dependents(cell) + " ";
            seen += sheet.allDependents(cell) + " " + sheet.dependsOn(0, cell) + " " + sheet.isRing(cell) + " ";
            seen += sheet.placeInOrder(cell) + " " + sheet.orderAt(cell) + " " + Checks.outcome(() -> sheet.chain(cell))
                + ", ";
        }
        return seen;
    }

    /** What can be seen of the pad, as it is and with an ending that makes it whole; the desk is used up by that. */
    String lookAtPad(String ending) {
        String seen = sheet.contentFault() + " " + sheet.ordersFault() + " ";
        for (int place = 0; place < ending.length(); place++) {
            seen += sheet.type(ending.charAt(place)) + " ";
        }
        seen += sheet.contentFault() + " " + sheet.ordersFault() + " ";
        seen += Checks.outcome(() -> sheet.enter(150)) + " " + Checks.outcome(sheet::runOrders) + " ";
        seen += formula(150) + " " + told(150) + " " + told(0) + " " + formula(1) + " " + told(1);
        return seen + " " + sheet.clearPad();
    }

    /** What can be seen of everything; the desk is used up by that. */
    String lookAtAll() {
        StringBuilder seen = new StringBuilder(look());
        seen.append(sheet.contentFault()).append(' ').append(sheet.ordersFault()).append(' ');
        if (sheet.contentFault() < 0) {
            sheet.enter(199);
            seen.append(look());
            sheet.undo();
        }
        seen.append(sheet.clearPad()).append('\n');
        while (!Checks.outcome(sheet::undo).startsWith("java")) {
            seen.append("undone\n").append(look());
        }
        seen.append(Checks.outcome(sheet::goBack)).append('\n').append(look());
        return seen.toString();
    }
}
