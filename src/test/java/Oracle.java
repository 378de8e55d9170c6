import java.util.ArrayDeque;
import java.util.ArrayList;
import java.util.Arrays;
import java.util.Deque;
import java.util.List;
import java.util.TreeSet;
import java.util.function.Function;
import java.util.regex.MatchResult;
import java.util.regex.Matcher;
import java.util.regex.Pattern;

/**
 * The document done once more in another way: contents are kept as texts, formulas are read anew for each question,
 * and everything else is worked out from the texts. It is slow and plain on purpose.
 */
final class Oracle {
    private static final int CELLS = 200;
    private static final Pattern PLACES =
        Pattern.compile("(\\$?)([A-J])(\\$?)(\\d+)(?::(\\$?)([A-J])(\\$?)(\\d+))?");

    private static final class Fault extends RuntimeException {
        private static final long serialVersionUID = 1L;
        final String kind;

        Fault(String kind) {
            super(kind, null, false, false);
            this.kind = kind;
        }
    }

    private record Past(String[] texts, int latest, int all) {
    }

    private final Grammar grammar;
    private String pad = "";
    private String[] texts = new String[CELLS];
    private int latest = 0;
    private int all = 0;
    private Past snapshot = null;
    private final Deque<Past> records = new ArrayDeque<>();
    /** What follows from the texts; null until it is asked. */
    private List<TreeSet<Integer>> direct = null;
    private boolean[][] reach = null;
    private Object[] results = null;
    private List<Integer> order = null;

    Oracle(Grammar grammar) {
        this.grammar = grammar;
        Arrays.fill(texts, "");
    }

    // ---- the pad

    int type(int character) {
        argument(character >= 32 && character <= 126);
        state(pad.length() < 60);
        pad += (char) character;
        return pad.length();
    }

    int clearPad() {
        int length = pad.length();
        pad = "";
        return length;
    }

    int contentFault() {
        return grammar.fault("content", pad);
    }

    int ordersFault() {
        return grammar.fault("orders", pad);
    }

    // ---- changes

    int enter(int cell) {
        argument(isCell(cell));
        state(contentFault() < 0);
        return put(cell, pad);
    }

    int setNumber(int cell, int number) {
        argument(isCell(cell) && Math.abs((long) number) <= 999999);
        return put(cell, Integer.toString(number));
    }

    int clear(int cell) {
        argument(isCell(cell));
        return put(cell, "");
    }

    int copyBlock(int first, int last, int to) {
        argument(isCell(first) && isCell(last) && isCell(to));
        int rows = last / 10 - first / 10 + 1;
        int columns = last % 10 - first % 10 + 1;
        argument(rows >= 1 && columns >= 1);
        state(to / 10 + rows <= 20 && to % 10 + columns <= 10);
        record();
        String[] before = texts.clone();
        int down = to / 10 - first / 10;
        int right = to % 10 - first % 10;
        for (int cell = 0; cell < CELLS; cell++) {
            int source = cell - 10 * down - right;
            boolean inRows = cell / 10 >= to / 10 && cell / 10 < to / 10 + rows;
            boolean inColumns = cell % 10 >= to % 10 && cell % 10 < to % 10 + columns;
            if (inRows && inColumns) {
                texts[cell] = copied(before[source], down, right);
            }
        }
        computed(formulas());
        return rows * columns;
    }

    private static String copied(String text, int down, int right) {
        return rewritten(text, match -> {
            String one = stepped(match.group(1), match.group(2), match.group(3), match.group(4), down, right);
            if (match.group(6) == null) {
                return one;
            }
            String two = stepped(match.group(5), match.group(6), match.group(7), match.group(8), down, right);
            return one.equals("#REF") || two.equals("#REF") ? "#REF" : one + ":" + two;
        });
    }

    private static String stepped(String d1, String column, String d2, String row, int down, int right) {
        int x = column.charAt(0) - 'A' + (d1.isEmpty() ? right : 0);
        int y = Integer.parseInt(row) + (d2.isEmpty() ? down : 0);
        return x < 0 || x > 9 || y < 1 || y > 20 ? "#REF" : d1 + (char) ('A' + x) + d2 + y;
    }

    int moveCell(int from, int to) {
        argument(isCell(from) && isCell(to) && from != to);
        record();
        texts[to] = texts[from];
        texts[from] = "";
        int[] count = {0};
        rewriteAll(match -> {
            if (match.group(6) != null) {
                return match.group();
            }
            int cell = cellOf(match.group(2), match.group(4));
            if (cell == to) {
                count[0]++;
                return "#REF";
            }
            if (cell == from) {
                count[0]++;
                return match.group(1) + (char) ('A' + to % 10) + match.group(3) + (to / 10 + 1);
            }
            return match.group();
        });
        computed(formulas());
        return count[0];
    }

    int insertRow(int row) {
        argument(row >= 0 && row < 20);
        return insert(true, row);
    }

    int deleteRow(int row) {
        argument(row >= 0 && row < 20);
        return delete(true, row);
    }

    int insertColumn(int column) {
        argument(column >= 0 && column < 10);
        return insert(false, column);
    }

    int deleteColumn(int column) {
        argument(column >= 0 && column < 10);
        return delete(false, column);
    }

    private int insert(boolean rows, int line) {
        int lines = rows ? 20 : 10;
        int going = 0;
        for (int cell = 0; cell < CELLS; cell++) {
            int here = rows ? cell / 10 : cell % 10;
            state(here != lines - 1 || texts[cell].isEmpty());
            going += here >= line && !texts[cell].isEmpty() ? 1 : 0;
        }
        record();
        String[] before = texts.clone();
        Arrays.fill(texts, "");
        for (int cell = 0; cell < CELLS; cell++) {
            int here = rows ? cell / 10 : cell % 10;
            if (!before[cell].isEmpty()) {
                texts[here < line ? cell : rows ? cell + 10 : cell + 1] = before[cell];
            }
        }
        rewriteAll(match -> {
            int one = lineOf(rows, match.group(2), match.group(4));
            if (match.group(6) == null) {
                int then = one >= line ? one + 1 : one;
                return then == lines ? "#REF" : withLine(rows, match, 1, then);
            }
            int two = lineOf(rows, match.group(6), match.group(8));
            int oneThen = Math.min(lines - 1, one >= line ? one + 1 : one);
            int twoThen = Math.min(lines - 1, two >= line ? two + 1 : two);
            return withLine(rows, match, 1, oneThen) + ":" + withLine(rows, match, 5, twoThen);
        });
        computed(formulas());
        return going;
    }

    private int delete(boolean rows, int line) {
        int going = 0;
        record();
        String[] before = texts.clone();
        Arrays.fill(texts, "");
        for (int cell = 0; cell < CELLS; cell++) {
            int here = rows ? cell / 10 : cell % 10;
            if (here == line) {
                going += before[cell].isEmpty() ? 0 : 1;
            } else {
                texts[here < line ? cell : rows ? cell - 10 : cell - 1] = before[cell];
            }
        }
        rewriteAll(match -> {
            int one = lineOf(rows, match.group(2), match.group(4));
            if (match.group(6) == null) {
                return one == line ? "#REF" : withLine(rows, match, 1, one > line ? one - 1 : one);
            }
            int two = lineOf(rows, match.group(6), match.group(8));
            if (one == line && two == line) {
                return "#REF";
            }
            // A corner that goes away becomes the line ahead of it, or the one behind it, which has its number then.
            int oneThen = one > line || one == line && two < one ? one - 1 : one;
            int twoThen = two > line || two == line && one < two ? two - 1 : two;
            return withLine(rows, match, 1, oneThen) + ":" + withLine(rows, match, 5, twoThen);
        });
        computed(formulas());
        return going;
    }

    private static int lineOf(boolean rows, String column, String row) {
        return rows ? Integer.parseInt(row) - 1 : column.charAt(0) - 'A';
    }

    private static String withLine(boolean rows, MatchResult match, int group, int line) {
        String column = rows ? match.group(group + 1) : String.valueOf((char) ('A' + line));
        String row = rows ? String.valueOf(line + 1) : match.group(group + 3);
        return match.group(group) + column + match.group(group + 2) + row;
    }

    int runOrders() {
        state(ordersFault() < 0);
        record();
        String[] orders = pad.isEmpty() ? new String[0] : pad.split(";");
        for (String order : orders) {
            String[] sides = order.split(":", 2);
            texts[cellOf(sides[0].substring(0, 1), sides[0].substring(1))] = tidied(sides[1]);
        }
        computed(formulas());
        return orders.length;
    }

    int goBack() {
        state(snapshot != null);
        record();
        bring(snapshot);
        return filled();
    }

    int keep() {
        snapshot = now();
        return filled();
    }

    int undo() {
        state(!records.isEmpty());
        bring(records.removeLast());
        return records.size();
    }

    private int put(int cell, String content) {
        record();
        texts[cell] = tidied(content);
        forget();
        int count = isFormula(cell) ? 1 : 0;
        for (int other = 0; other < CELLS; other++) {
            count += other != cell && dependsOn(other, cell) ? 1 : 0;
        }
        computed(count);
        return count;
    }

    private static String tidied(String content) {
        return content.equals("-0") ? "0" : content;
    }

    private Past now() {
        return new Past(texts.clone(), latest, all);
    }

    private void record() {
        records.addLast(now());
        if (records.size() > 4) {
            records.removeFirst();
        }
        forget();
    }

    private void bring(Past past) {
        texts = past.texts().clone();
        latest = past.latest();
        all = past.all();
        forget();
    }

    private void computed(int count) {
        latest = count;
        all += count;
    }

    private void forget() {
        direct = null;
        reach = null;
        results = null;
        order = null;
    }

    private void rewriteAll(Function<MatchResult, String> change) {
        for (int cell = 0; cell < CELLS; cell++) {
            texts[cell] = rewritten(texts[cell], change);
        }
        forget();
    }

    private static String rewritten(String text, Function<MatchResult, String> change) {
        if (!text.startsWith("=")) {
            return text;
        }
        return PLACES.matcher(text).replaceAll(match -> Matcher.quoteReplacement(change.apply(match)));
    }

    // ---- cells

    boolean isEmpty(int cell) {
        argument(isCell(cell));
        return texts[cell].isEmpty();
    }

    boolean isFormula(int cell) {
        argument(isCell(cell));
        return texts[cell].startsWith("=");
    }

    boolean hasValue(int cell) {
        argument(isCell(cell));
        return result(cell) instanceof Long;
    }

    int value(int cell) {
        argument(isCell(cell));
        state(result(cell) instanceof Long);
        return (int) (long) (Long) result(cell);
    }

    int valueByAsking(int cell) {
        argument(isCell(cell));
        return value(cell);
    }

    boolean isDivision(int cell) {
        argument(isCell(cell));
        return result(cell).equals("DIVISION");
    }

    boolean isTooGreat(int cell) {
        argument(isCell(cell));
        return result(cell).equals("SIZE");
    }

    boolean isBroken(int cell) {
        argument(isCell(cell));
        return result(cell).equals("REFERENCE");
    }

    boolean isWithoutValues(int cell) {
        argument(isCell(cell));
        return result(cell).equals("VALUES");
    }

    boolean isCyclic(int cell) {
        argument(isCell(cell));
        return result(cell).equals("CYCLE");
    }

    int formulaLength(int cell) {
        argument(isCell(cell));
        return isFormula(cell) ? texts[cell].length() : 0;
    }

    int formulaCharacter(int cell, int place) {
        argument(isCell(cell) && place >= 0);
        return place < formulaLength(cell) ? texts[cell].charAt(place) : -1;
    }

    // ---- what depends on what

    int references(int cell) {
        argument(isCell(cell));
        return direct().get(cell).size();
    }

    int referenceAt(int cell, int place) {
        argument(isCell(cell) && place >= 0);
        List<Integer> list = new ArrayList<>(direct().get(cell));
        return place < list.size() ? list.get(place) : -1;
    }

    int dependents(int cell) {
        argument(isCell(cell));
        return (int) direct().stream().filter(set -> set.contains(cell)).count();
    }

    int allDependents(int cell) {
        argument(isCell(cell));
        int count = 0;
        for (int other = 0; other < CELLS; other++) {
            count += dependsOn(other, cell) ? 1 : 0;
        }
        return count;
    }

    boolean dependsOn(int cell, int other) {
        argument(isCell(cell) && isCell(other));
        return reach()[cell][other];
    }

    boolean isRing(int cell) {
        argument(isCell(cell));
        return dependsOn(cell, cell);
    }

    int placeInOrder(int cell) {
        argument(isCell(cell));
        return order().indexOf(cell);
    }

    int orderAt(int place) {
        argument(place >= 0);
        return place < order().size() ? order().get(place) : -1;
    }

    int chain(int cell) {
        argument(isCell(cell));
        state(!isCyclic(cell));
        return longest(cell);
    }

    private int longest(int cell) {
        if (!isFormula(cell)) {
            return 0;
        }
        int most = 0;
        for (int other : direct().get(cell)) {
            most = Math.max(most, longest(other));
        }
        return most + 1;
    }

    // ---- sums

    int filled() {
        return (int) Arrays.stream(texts).filter(text -> !text.isEmpty()).count();
    }

    int formulas() {
        return (int) Arrays.stream(texts).filter(text -> text.startsWith("=")).count();
    }

    int errors() {
        int count = 0;
        for (int cell = 0; cell < CELLS; cell++) {
            count += hasValue(cell) ? 0 : 1;
        }
        return count;
    }

    int latestComputed() {
        return latest;
    }

    int allComputed() {
        return all;
    }

    long columnTotal(int column) {
        argument(column >= 0 && column < 10);
        long total = 0;
        for (int row = 0; row < 20; row++) {
            total += hasValue(10 * row + column) ? value(10 * row + column) : 0;
        }
        return total;
    }

    long rowTotal(int row) {
        argument(row >= 0 && row < 20);
        long total = 0;
        for (int column = 0; column < 10; column++) {
            total += hasValue(10 * row + column) ? value(10 * row + column) : 0;
        }
        return total;
    }

    double meanValue() {
        double sum = 0;
        int count = 0;
        for (int cell = 0; cell < CELLS; cell++) {
            if (!isEmpty(cell) && hasValue(cell)) {
                sum += value(cell);
                count++;
            }
        }
        return count == 0 ? 0.0 : sum / count;
    }

    int find(int value) {
        for (int cell = 0; cell < CELLS; cell++) {
            if (!isEmpty(cell) && hasValue(cell) && value(cell) == value) {
                return cell;
            }
        }
        return -1;
    }

    // ---- what would be

    int valueIf(int cell, int number, int asked) {
        argument(isCell(cell) && isCell(asked) && Math.abs((long) number) <= 999999);
        Object would = with(cell, Integer.toString(number)).result(asked);
        state(would instanceof Long);
        return (int) (long) (Long) would;
    }

    int numberFor(int cell, int asked, int value) {
        argument(isCell(cell) && isCell(asked));
        for (int number = 0; number <= 50; number++) {
            if (with(cell, Integer.toString(number)).result(asked).equals((long) value)) {
                return number;
            }
        }
        return -1;
    }

    int errorsWithout(int cell) {
        argument(isCell(cell));
        return with(cell, "").errors();
    }

    private Oracle with(int cell, String content) {
        Oracle other = new Oracle(grammar);
        other.texts = texts.clone();
        other.texts[cell] = content;
        return other;
    }

    // ---- what follows from the texts

    private static void argument(boolean holds) {
        if (!holds) {
            throw new IllegalArgumentException();
        }
    }

    private static void state(boolean holds) {
        if (!holds) {
            throw new IllegalStateException();
        }
    }

    private static boolean isCell(int cell) {
        return cell >= 0 && cell < CELLS;
    }

    private static int cellOf(String column, String row) {
        return 10 * (Integer.parseInt(row) - 1) + column.charAt(0) - 'A';
    }

    private static List<Integer> range(int one, int two) {
        List<Integer> cells = new ArrayList<>();
        for (int cell = 0; cell < CELLS; cell++) {
            boolean inRows = (cell / 10 - one / 10) * (cell / 10 - two / 10) <= 0;
            boolean inColumns = (cell % 10 - one % 10) * (cell % 10 - two % 10) <= 0;
            if (inRows && inColumns) {
                cells.add(cell);
            }
        }
        return cells;
    }

    private List<TreeSet<Integer>> direct() {
        if (direct == null) {
            direct = new ArrayList<>();
            for (int cell = 0; cell < CELLS; cell++) {
                TreeSet<Integer> set = new TreeSet<>();
                direct.add(set);
                if (!texts[cell].startsWith("=")) {
                    continue;
                }
                Matcher match = PLACES.matcher(texts[cell]);
                while (match.find()) {
                    int one = cellOf(match.group(2), match.group(4));
                    int two = match.group(6) == null ? one : cellOf(match.group(6), match.group(8));
                    set.addAll(range(one, two));
                }
            }
        }
        return direct;
    }

    private boolean[][] reach() {
        if (reach == null) {
            reach = new boolean[CELLS][CELLS];
            for (int cell = 0; cell < CELLS; cell++) {
                visit(cell, reach[cell]);
            }
        }
        return reach;
    }

    private void visit(int cell, boolean[] seen) {
        for (int other : direct().get(cell)) {
            if (!seen[other]) {
                seen[other] = true;
                visit(other, seen);
            }
        }
    }

    private boolean cyclic(int cell) {
        boolean found = reach()[cell][cell];
        for (int other = 0; other < CELLS; other++) {
            found |= reach()[cell][other] && reach()[other][other];
        }
        return found;
    }

    private List<Integer> order() {
        if (order == null) {
            List<Integer> waiting = new ArrayList<>();
            for (int cell = 0; cell < CELLS; cell++) {
                if (isFormula(cell) && !cyclic(cell)) {
                    waiting.add(cell);
                }
            }
            List<Integer> placed = new ArrayList<>();
            while (!waiting.isEmpty()) {
                for (Integer cell : waiting) {
                    if (direct().get(cell).stream().noneMatch(waiting::contains)) {
                        placed.add(cell);
                        waiting.remove(cell);
                        break;
                    }
                }
            }
            order = placed;
        }
        return order;
    }

    /** The value as a Long, or the error's name. */
    private Object result(int cell) {
        if (results == null) {
            results = new Object[CELLS];
        }
        if (results[cell] == null) {
            results[cell] = worked(cell);
        }
        return results[cell];
    }

    private Object worked(int cell) {
        if (!isFormula(cell)) {
            return texts[cell].isEmpty() ? 0L : Long.parseLong(texts[cell]);
        }
        if (cyclic(cell)) {
            return "CYCLE";
        }
        try {
            return new Reader(texts[cell].substring(1)).comparison().value();
        } catch (Fault fault) {
            return fault.kind;
        }
    }

    private long known(int cell) {
        Object result = result(cell);
        if (result instanceof String kind) {
            throw new Fault(kind);
        }
        return (Long) result;
    }

    private static long checked(long number) {
        if (number < -999999999L || number > 999999999L) {
            throw new Fault("SIZE");
        }
        return number;
    }

    private interface Part {
        long value();
    }

    /** Reads a formula into parts that compute themselves. */
    private final class Reader {
        private final String text;
        private int at = 0;

        Reader(String text) {
            this.text = text;
        }

        private boolean take(String word) {
            if (text.startsWith(word, at)) {
                at += word.length();
                return true;
            }
            return false;
        }

        Part comparison() {
            Part left = sum();
            if (take("<")) {
                Part right = sum();
                return () -> left.value() < right.value() ? 1 : 0;
            }
            if (take(">")) {
                Part right = sum();
                return () -> left.value() > right.value() ? 1 : 0;
            }
            if (take("=")) {
                Part right = sum();
                return () -> left.value() == right.value() ? 1 : 0;
            }
            return left;
        }

        private Part sum() {
            Part whole = product();
            while (true) {
                Part left = whole;
                if (take("+")) {
                    Part right = product();
                    whole = () -> checked(left.value() + right.value());
                } else if (take("-")) {
                    Part right = product();
                    whole = () -> checked(left.value() - right.value());
                } else {
                    return whole;
                }
            }
        }

        private Part product() {
            Part whole = factor();
            while (true) {
                Part left = whole;
                if (take("*")) {
                    Part right = factor();
                    whole = () -> checked(left.value() * right.value());
                } else if (take("/")) {
                    Part right = factor();
                    whole = () -> quotient(left.value(), right.value());
                } else {
                    return whole;
                }
            }
        }

        private long quotient(long left, long right) {
            if (right == 0) {
                throw new Fault("DIVISION");
            }
            return checked(Math.floorDiv(left, right));
        }

        private Part factor() {
            if (take("-")) {
                Part inside = factor();
                return () -> checked(-inside.value());
            }
            if (take("(")) {
                Part inside = comparison();
                take(")");
                return inside;
            }
            if (take("#REF")) {
                return () -> {
                    throw new Fault("REFERENCE");
                };
            }
            if (take("ABS(")) {
                Part inside = comparison();
                take(")");
                return () -> checked(Math.abs(inside.value()));
            }
            if (take("IF(")) {
                Part one = comparison();
                take(",");
                Part two = comparison();
                take(",");
                Part three = comparison();
                take(")");
                return () -> one.value() != 0 ? two.value() : three.value();
            }
            for (String word : new String[] {"SUM", "MIN", "MAX", "COUNT"}) {
                if (take(word + "(")) {
                    return gathering(word);
                }
            }
            if (Character.isDigit(text.charAt(at))) {
                int start = at;
                while (at < text.length() && Character.isDigit(text.charAt(at))) {
                    at++;
                }
                long number = Long.parseLong(text.substring(start, at));
                return () -> number;
            }
            Matcher match = PLACES.matcher(text);
            match.region(at, text.length());
            match.lookingAt();
            at = match.end(4);
            int cell = cellOf(match.group(2), match.group(4));
            return () -> known(cell);
        }

        /** The cells of a range, or null if the argument here is none. */
        private List<Integer> rangeHere() {
            Matcher match = PLACES.matcher(text);
            match.region(at, text.length());
            if (!match.lookingAt() || match.group(6) == null) {
                return null;
            }
            at = match.end();
            return range(cellOf(match.group(2), match.group(4)), cellOf(match.group(6), match.group(8)));
        }

        private Part gathering(String word) {
            List<Function<List<Long>, Long>> steps = new ArrayList<>();
            do {
                List<Integer> cells = rangeHere();
                if (cells == null) {
                    Part part = comparison();
                    steps.add(values -> add(word, values, part.value()));
                    continue;
                }
                for (int cell : cells) {
                    steps.add(values -> texts[cell].isEmpty() ? 0L
                        : add(word, values, word.equals("COUNT") ? 1 : known(cell)));
                }
            } while (take(","));
            take(")");
            return () -> {
                List<Long> values = new ArrayList<>();
                for (Function<List<Long>, Long> step : steps) {
                    step.apply(values);
                }
                return told(word, values);
            };
        }

        private long add(String word, List<Long> values, long value) {
            values.add(value);
            if (word.equals("SUM")) {
                checked(values.stream().mapToLong(Long::longValue).sum());
            }
            return value;
        }

        private long told(String word, List<Long> values) {
            switch (word) {
                case "SUM":
                    return values.stream().mapToLong(Long::longValue).sum();
                case "COUNT":
                    return values.size();
                case "MIN":
                    return values.stream().mapToLong(Long::longValue).min().orElseThrow(() -> new Fault("VALUES"));
                default:
                    return values.stream().mapToLong(Long::longValue).max().orElseThrow(() -> new Fault("VALUES"));
            }
        }
    }
}
