/** Contents and orders, whole ones and spoilt ones, as the grammar allows them. */
final class Contents {
    private final Dice dice;
    /** Small areas let formulas meet, great ones, and those that begin far off, reach the sheet's edges. */
    private final int first;
    private final int rows;
    private final int columns;

    Contents(Dice dice, int first, int rows, int columns) {
        this.dice = dice;
        this.first = first;
        this.rows = rows;
        this.columns = columns;
    }

    int cell() {
        if (dice.oneIn(12)) {
            return dice.below(200);
        }
        return first + 10 * dice.below(rows) + dice.below(columns);
    }

    static String name(int cell) {
        return (char) ('A' + cell % 10) + String.valueOf(cell / 10 + 1);
    }

    String content() {
        switch (dice.below(8)) {
            case 0:
                return "";
            case 1:
                return dice.pick("", "-") + number();
            default:
                return formula();
        }
    }

    String formula() {
        String text = "";
        do {
            text = "=" + comparison(3);
        } while (text.length() > 60);
        return text;
    }

    String orders() {
        String text = "";
        for (int count = dice.below(6); count > 0; count--) {
            String order = name(cell()) + ":" + content() + ";";
            if (text.length() + order.length() <= 60) {
                text += order;
            }
        }
        return text;
    }

    String spoilt(String text) {
        int place = dice.below(text.length() + 1);
        String signs = "ABCJKSUMINAXCOTF$:;,()=<>+-*/0123456789 #a~";
        char sign = signs.charAt(dice.below(signs.length()));
        String end = text.substring(Math.min(text.length(), place + dice.below(2)));
        String then = dice.oneIn(4) ? text.substring(0, place) : text.substring(0, place) + sign + end;
        return then.length() > 60 ? then.substring(0, 60) : then;
    }

    private String number() {
        return dice.pick("0", "1", "2", "3", "5", "7", "10", "50", "100", "999999", "31623", "4000", "12345");
    }

    private String reference() {
        String name = name(cell());
        return dice.pick("", "", "$") + name.charAt(0) + dice.pick("", "", "$") + name.substring(1);
    }

    private String comparison(int depth) {
        String left = sum(depth);
        return dice.oneIn(6) ? left + dice.pick("<", ">", "=") + sum(depth) : left;
    }

    private String sum(int depth) {
        String text = product(depth);
        while (dice.oneIn(3)) {
            text += dice.pick("+", "-") + product(depth);
        }
        return text;
    }

    private String product(int depth) {
        String text = factor(depth);
        while (dice.oneIn(4)) {
            text += dice.pick("*", "*", "/") + factor(depth);
        }
        return text;
    }

    private String factor(int depth) {
        int kind = dice.below(depth > 0 ? 14 : 8);
        if (kind < 5) {
            return reference();
        }
        if (kind < 8) {
            return dice.oneIn(6) ? "-" + factor(depth) : number();
        }
        switch (kind) {
            case 8:
                return "(" + comparison(depth - 1) + ")";
            case 9:
                return "ABS(" + comparison(depth - 1) + ")";
            case 10:
                return "IF(" + comparison(depth - 1) + "," + comparison(depth - 1) + "," + comparison(depth - 1) + ")";
            default:
                return call(depth - 1);
        }
    }

    private String call(int depth) {
        String text = dice.pick("SUM", "MIN", "MAX", "COUNT") + "(" + argument(depth);
        while (dice.oneIn(3)) {
            text += "," + argument(depth);
        }
        return text + ")";
    }

    private String argument(int depth) {
        return dice.below(3) < 2 ? reference() + ":" + reference() : comparison(depth);
    }
}
