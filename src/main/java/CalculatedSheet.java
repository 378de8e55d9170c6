/** A spreadsheet of 20 rows and 10 columns; ../shared/DOC.md tells what each call of its face promises. */
public final class CalculatedSheet {
    private static final int ROWS = 20;
    private static final int COLUMNS = 10;
    private static final int CELLS = 200;
    private static final int MOST_CHARACTERS = 60;
    private static final int FIRST_CHARACTER = 32;
    private static final int LAST_CHARACTER = 126;
    private static final int GREATEST_NUMBER = 999999;
    private static final int GREATEST_TRIED = 50;
    /** A content has no more tokens than characters. */
    private static final int MOST_TOKENS = MOST_CHARACTERS;

    private static final int EMPTY = 0;
    private static final int NUMBER = 1;
    private static final int FORMULA = 2;

    private static final int NO_ERROR = 0;
    private static final int DIVISION = 1;
    private static final int SIZE = 2;
    private static final int REFERENCE = 3;
    private static final int VALUES = 4;
    private static final int CYCLE = 5;

    private static final int SUM = 0;
    private static final int MIN = 1;
    private static final int MAX = 2;
    private static final int COUNT = 3;
    private static final int ABS = 4;
    private static final int IF = 5;
    private static final int WORDS = 6;

    private final Pad pad;
    private final Calculation sheet;
    /** What would be is worked out here, so that the sheet itself stays as it is. */
    private final Calculation trial;
    private final State snapshot;
    private boolean hasSnapshot;
    private final History history;
    private final StringBuilder text;

    public CalculatedSheet() {
        pad = new Pad();
        sheet = new Calculation();
        trial = new Calculation();
        snapshot = new State();
        history = new History();
        text = new StringBuilder();
    }

    // ---- the pad

    public int type(int character) throws IllegalArgumentException, IllegalStateException {
        if (character < FIRST_CHARACTER || character > LAST_CHARACTER) {
            throw new IllegalArgumentException("no such character");
        }
        if (pad.length >= MOST_CHARACTERS) {
            throw new IllegalStateException("the pad is full");
        }
        pad.append((char) character);
        return pad.length;
    }

    public int clearPad() {
        int length = pad.length;
        pad.length = 0;
        return length;
    }

    public int contentFault() {
        return pad.faultAsContent();
    }

    public int ordersFault() {
        return pad.faultAsOrders();
    }

    // ---- changes

    public int enter(int cell) throws IllegalArgumentException, IllegalStateException {
        requireCell(cell);
        if (pad.faultAsContent() >= 0) {
            throw new IllegalStateException("the pad has a fault");
        }
        history.record(sheet.cells);
        sheet.cells.putRead(cell, pad);
        return sheet.computeFrom(cell);
    }

    public int setNumber(int cell, int number) throws IllegalArgumentException {
        requireCell(cell);
        requireNumber(number);
        history.record(sheet.cells);
        sheet.cells.putNumber(cell, number);
        return sheet.computeFrom(cell);
    }

    public int clear(int cell) throws IllegalArgumentException {
        requireCell(cell);
        history.record(sheet.cells);
        sheet.cells.putNothing(cell);
        return sheet.computeFrom(cell);
    }

    public int copyBlock(int first, int last, int to) throws IllegalArgumentException, IllegalStateException {
        requireCell(first);
        requireCell(last);
        requireCell(to);
        int rows = last / COLUMNS - first / COLUMNS + 1;
        int columns = last % COLUMNS - first % COLUMNS + 1;
        if (rows < 1 || columns < 1) {
            throw new IllegalArgumentException("the last cell is ahead of the first one");
        }
        if (to / COLUMNS + rows > ROWS || to % COLUMNS + columns > COLUMNS) {
            throw new IllegalStateException("the block would leave the sheet");
        }
        State before = history.record(sheet.cells);
        Copying copying = new Copying(to / COLUMNS - first / COLUMNS, to % COLUMNS - first % COLUMNS);
        for (int row = 0; row < rows; row++) {
            for (int column = 0; column < columns; column++) {
                int step = COLUMNS * row + column;
                sheet.cells.takeCell(to + step, before, first + step);
                sheet.cells.rewrite(to + step, copying);
            }
        }
        sheet.computeAll();
        return rows * columns;
    }

    public int moveCell(int from, int to) throws IllegalArgumentException {
        requireCell(from);
        requireCell(to);
        if (from == to) {
            throw new IllegalArgumentException("the cells are the same");
        }
        State before = history.record(sheet.cells);
        sheet.cells.takeCell(to, before, from);
        sheet.cells.putNothing(from);
        int changed = sheet.cells.rewriteAll(new Moving(from, to));
        sheet.computeAll();
        return changed;
    }

    public int insertRow(int row) throws IllegalArgumentException, IllegalStateException {
        requireRow(row);
        return changeLines(new LineChange(true, row, true));
    }

    public int deleteRow(int row) throws IllegalArgumentException {
        requireRow(row);
        return changeLines(new LineChange(true, row, false));
    }

    public int insertColumn(int column) throws IllegalArgumentException, IllegalStateException {
        requireColumn(column);
        return changeLines(new LineChange(false, column, true));
    }

    public int deleteColumn(int column) throws IllegalArgumentException {
        requireColumn(column);
        return changeLines(new LineChange(false, column, false));
    }

    public int runOrders() throws IllegalStateException {
        if (pad.faultAsOrders() >= 0) {
            throw new IllegalStateException("the pad has a fault");
        }
        history.record(sheet.cells);
        int orders = 0;
        pad.startReading();
        while (orders < MOST_CHARACTERS && pad.readOrder()) {
            sheet.cells.putRead(pad.target, pad);
            orders++;
        }
        sheet.computeAll();
        return orders;
    }

    public int goBack() throws IllegalStateException {
        if (!hasSnapshot) {
            throw new IllegalStateException("there is no snapshot");
        }
        history.record(sheet.cells);
        sheet.become(snapshot);
        return sheet.cells.countOfFilled();
    }

    public int keep() {
        snapshot.takeAll(sheet.cells);
        hasSnapshot = true;
        return sheet.cells.countOfFilled();
    }

    public int undo() throws IllegalStateException {
        State latest = history.takeLatest();
        if (latest == null) {
            throw new IllegalStateException("no state is recorded");
        }
        sheet.become(latest);
        return history.recorded;
    }

    // ---- cells

    public boolean isEmpty(int cell) throws IllegalArgumentException {
        requireCell(cell);
        return sheet.cells.kinds[cell] == EMPTY;
    }

    public boolean isFormula(int cell) throws IllegalArgumentException {
        requireCell(cell);
        return sheet.cells.kinds[cell] == FORMULA;
    }

    public boolean hasValue(int cell) throws IllegalArgumentException {
        return errorIs(cell, NO_ERROR);
    }

    public int value(int cell) throws IllegalArgumentException, IllegalStateException {
        requireCell(cell);
        return valueIn(sheet, cell);
    }

    public int valueByAsking(int cell) throws IllegalArgumentException, IllegalStateException {
        requireCell(cell);
        trial.become(sheet.cells);
        trial.computeAnew(cell);
        return valueIn(trial, cell);
    }

    public boolean isDivision(int cell) throws IllegalArgumentException {
        return errorIs(cell, DIVISION);
    }

    public boolean isTooGreat(int cell) throws IllegalArgumentException {
        return errorIs(cell, SIZE);
    }

    public boolean isBroken(int cell) throws IllegalArgumentException {
        return errorIs(cell, REFERENCE);
    }

    public boolean isWithoutValues(int cell) throws IllegalArgumentException {
        return errorIs(cell, VALUES);
    }

    public boolean isCyclic(int cell) throws IllegalArgumentException {
        return errorIs(cell, CYCLE);
    }

    public int formulaLength(int cell) throws IllegalArgumentException {
        requireCell(cell);
        writeFormula(cell);
        return text.length();
    }

    public int formulaCharacter(int cell, int place) throws IllegalArgumentException {
        requireCell(cell);
        requirePlace(place);
        writeFormula(cell);
        if (place >= text.length()) {
            return -1;
        }
        return text.charAt(place);
    }

    // ---- what depends on what

    public int references(int cell) throws IllegalArgumentException {
        requireCell(cell);
        return sheet.links.countOfReferred(cell);
    }

    public int referenceAt(int cell, int place) throws IllegalArgumentException {
        requireCell(cell);
        requirePlace(place);
        return sheet.links.referredAt(cell, place);
    }

    public int dependents(int cell) throws IllegalArgumentException {
        requireCell(cell);
        return sheet.links.countOfUsers(cell);
    }

    public int allDependents(int cell) throws IllegalArgumentException {
        requireCell(cell);
        sheet.links.markUsersOf(cell);
        return sheet.links.markedFormulas();
    }

    public boolean dependsOn(int cell, int other) throws IllegalArgumentException {
        requireCell(cell);
        requireCell(other);
        sheet.links.markUsersOf(other);
        return sheet.links.marks[cell];
    }

    public boolean isRing(int cell) throws IllegalArgumentException {
        requireCell(cell);
        sheet.links.markUsersOf(cell);
        return sheet.links.marks[cell];
    }

    public int placeInOrder(int cell) throws IllegalArgumentException {
        requireCell(cell);
        return sheet.links.places[cell];
    }

    public int orderAt(int place) throws IllegalArgumentException {
        requirePlace(place);
        return place < sheet.links.placedCount ? sheet.links.order[place] : -1;
    }

    public int chain(int cell) throws IllegalArgumentException, IllegalStateException {
        requireCell(cell);
        if (sheet.cells.errorKinds[cell] == CYCLE) {
            throw new IllegalStateException("the chain has no end");
        }
        return sheet.links.chainLength(cell);
    }

    // ---- sums

    public int filled() {
        return sheet.cells.countOfFilled();
    }

    public int formulas() {
        return sheet.links.formulaCount;
    }

    public int errors() {
        return sheet.cells.countOfErrors();
    }

    public int latestComputed() {
        return sheet.cells.latestCount;
    }

    public int allComputed() {
        return sheet.cells.allCount;
    }

    public long columnTotal(int column) throws IllegalArgumentException {
        requireColumn(column);
        return sheet.cells.total(column, COLUMNS, ROWS);
    }

    public long rowTotal(int row) throws IllegalArgumentException {
        requireRow(row);
        return sheet.cells.total(row * COLUMNS, 1, COLUMNS);
    }

    public double meanValue() {
        int count = sheet.cells.countOfFilled() - sheet.cells.countOfErrors();
        if (count <= 0) {
            return 0.0;
        }
        return (double) sheet.cells.total(0, 1, CELLS) / (double) count;
    }

    public int find(int value) {
        return sheet.cells.lowestWith(value);
    }

    // ---- what would be

    public int valueIf(int cell, int number, int asked) throws IllegalArgumentException, IllegalStateException {
        requireCell(cell);
        requireNumber(number);
        requireCell(asked);
        tryNumber(cell, number);
        return valueIn(trial, asked);
    }

    public int numberFor(int cell, int asked, int value) throws IllegalArgumentException {
        requireCell(cell);
        requireCell(asked);
        tryNumber(cell, 0);
        for (int number = 0; number <= GREATEST_TRIED; number++) {
            trial.cells.putNumber(cell, number);
            trial.computeMarked();
            if (trial.cells.errorKinds[asked] == NO_ERROR && trial.cells.values[asked] == value) {
                return number;
            }
        }
        return -1;
    }

    public int errorsWithout(int cell) throws IllegalArgumentException {
        requireCell(cell);
        trial.cells.takeAll(sheet.cells);
        trial.cells.putNothing(cell);
        trial.computeFrom(cell);
        return trial.cells.countOfErrors();
    }

    // ---- what the calls have in common

    private static void requireCell(int cell) {
        if (!isCell(cell)) {
            throw new IllegalArgumentException("no such cell");
        }
    }

    private static void requireRow(int row) {
        if (row < 0 || row >= ROWS) {
            throw new IllegalArgumentException("no such row");
        }
    }

    private static void requireColumn(int column) {
        if (column < 0 || column >= COLUMNS) {
            throw new IllegalArgumentException("no such column");
        }
    }

    private static void requireNumber(int number) {
        if (number < -GREATEST_NUMBER || number > GREATEST_NUMBER) {
            throw new IllegalArgumentException("no such number");
        }
    }

    private static void requirePlace(int place) {
        if (place < 0) {
            throw new IllegalArgumentException("no such place");
        }
    }

    private static boolean isCell(int cell) {
        return cell >= 0 && cell < CELLS;
    }

    private static int valueIn(Calculation calculation, int cell) {
        if (calculation.cells.errorKinds[cell] != NO_ERROR) {
            throw new IllegalStateException("the cell has an error");
        }
        return calculation.cells.values[cell];
    }

    private boolean errorIs(int cell, int error) {
        requireCell(cell);
        return sheet.cells.errorKinds[cell] == error;
    }

    private void writeFormula(int cell) {
        text.setLength(0);
        sheet.cells.write(cell, text);
    }

    private int changeLines(LineChange change) {
        if (change.inserting && sheet.cells.filledIn(change, change.lastLine())) {
            throw new IllegalStateException("the last line is not empty");
        }
        int moved = sheet.cells.filledTouched(change);
        State before = history.record(sheet.cells);
        for (int cell = 0; cell < CELLS; cell++) {
            int source = change.sourceOf(cell);
            if (source < 0) {
                sheet.cells.putNothing(cell);
            } else {
                sheet.cells.takeCell(cell, before, source);
            }
        }
        sheet.cells.rewriteAll(change);
        sheet.computeAll();
        return moved;
    }

    private void tryNumber(int cell, int number) {
        trial.cells.takeAll(sheet.cells);
        trial.cells.putNumber(cell, number);
        trial.computeFrom(cell);
    }

    /**
     * The parts of a formula, each one in an int: the kind in the lowest three bits, what goes with it above them.
     * A spot, the place that a reference names, is a cell with a bit for each "$".
     */
    private static final class Token {
        static final int NONE = 0;
        static final int CONSTANT = 1;
        static final int SPOT = 2;
        static final int RANGE = 3;
        static final int BROKEN = 4;
        static final int SIGN = 5;
        static final int CALL = 6;
        static final int FIXED_COLUMN = 256;
        static final int FIXED_ROW = 512;
        private static final int SPOTS = 1024;

        private Token() {
        }

        static int of(int kind, int content) {
            return content * 8 + kind;
        }

        static int ofRange(int first, int second) {
            return of(RANGE, first + SPOTS * second);
        }

        static int kind(int token) {
            return token & 7;
        }

        static int content(int token) {
            return token >> 3;
        }

        static int firstCorner(int token) {
            return content(token) & (SPOTS - 1);
        }

        static int secondCorner(int token) {
            return (content(token) >> 10) & (SPOTS - 1);
        }

        static int cell(int spot) {
            int cell = spot & 255;
            return cell < CELLS ? cell : 0;
        }

        static boolean isOpening(int token) {
            return kind(token) == CALL || token == of(SIGN, '(');
        }

        /** The call's name with the bracket that always follows it. */
        static String word(int call) {
            switch (call) {
                case SUM:
                    return "SUM(";
                case MIN:
                    return "MIN(";
                case MAX:
                    return "MAX(";
                case COUNT:
                    return "COUNT(";
                case ABS:
                    return "ABS(";
                default:
                    return "IF(";
            }
        }

        static void write(int token, StringBuilder text) {
            switch (kind(token)) {
                case CONSTANT:
                    text.append(content(token));
                    break;
                case SPOT:
                    writeSpot(content(token), text);
                    break;
                case RANGE:
                    writeSpot(firstCorner(token), text);
                    text.append(':');
                    writeSpot(secondCorner(token), text);
                    break;
                case BROKEN:
                    text.append("#REF");
                    break;
                case SIGN:
                    text.append((char) content(token));
                    break;
                case CALL:
                    text.append(word(content(token)));
                    break;
                default:
                    break;
            }
        }

        private static void writeSpot(int spot, StringBuilder text) {
            int cell = cell(spot);
            if ((spot & FIXED_COLUMN) != 0) {
                text.append('$');
            }
            text.append((char) ('A' + cell % COLUMNS));
            if ((spot & FIXED_ROW) != 0) {
                text.append('$');
            }
            text.append(cell / COLUMNS + 1);
        }
    }

    /**
     * The pad and its reader. The reader goes on as long as what it has read begins some content (or orders),
     * so where it stops is the fault.
     */
    private static final class Pad {
        private static final char END = 0;
        /** What a bracket belongs to that is no call's, and the whole formula. */
        private static final int PLAIN = 6;
        private static final int WHOLE = 7;
        private static final int PARTS_OF_IF = 3;
        private static final int MOST_DIGITS = 6;

        /** What may come next. */
        private static final int OPERAND = 0;
        private static final int ARGUMENT = 1;
        private static final int AFTER_OPERAND = 2;
        private static final int AFTER_CORNER = 3;
        private static final int AFTER_RANGE = 4;

        final char[] characters = new char[MOST_CHARACTERS];
        int length;
        /** What was read: the cell of an order, and the content. */
        int target;
        int kind;
        int number;
        final int[] tokens = new int[MOST_TOKENS];
        int tokenCount;
        private int at;
        private int mode;
        /** For each open bracket: what it belongs to, which part is read, whether this part has a comparing sign. */
        private final int[] owners = new int[MOST_CHARACTERS + 1];
        private final int[] parts = new int[MOST_CHARACTERS + 1];
        private final boolean[] compared = new boolean[MOST_CHARACTERS + 1];
        private int depth;

        void append(char character) {
            if (length < MOST_CHARACTERS) {
                characters[length] = character;
                length++;
            }
        }

        void startReading() {
            at = 0;
        }

        int faultAsContent() {
            startReading();
            return readContent(END) ? -1 : at;
        }

        int faultAsOrders() {
            startReading();
            for (int order = 0; order < MOST_CHARACTERS && at < length; order++) {
                if (!readOrder()) {
                    return at;
                }
            }
            return -1;
        }

        /** False if no whole order stands here. */
        boolean readOrder() {
            target = readSpot(false);
            if (target < 0 || next() != ':') {
                return false;
            }
            at++;
            if (!readContent(';')) {
                return false;
            }
            at++;
            return true;
        }

        private boolean readContent(char ender) {
            startContent();
            if (next() != '=') {
                return readNumberOrNothing(ender);
            }
            kind = FORMULA;
            at++;
            for (int step = 0; step <= MOST_CHARACTERS; step++) {
                boolean fits;
                if (mode == OPERAND || mode == ARGUMENT) {
                    fits = readOperand();
                } else if (depth == 0 && next() == ender) {
                    return true;
                } else if (mode == AFTER_CORNER && next() == ':') {
                    fits = readSecondCorner();
                } else {
                    fits = readFollower();
                }
                if (!fits) {
                    return false;
                }
            }
            return false;
        }

        private void startContent() {
            tokenCount = 0;
            number = 0;
            depth = 0;
            owners[0] = WHOLE;
            compared[0] = false;
            mode = OPERAND;
        }

        private boolean readNumberOrNothing(char ender) {
            char first = next();
            if (first == ender) {
                kind = EMPTY;
                return true;
            }
            kind = NUMBER;
            if (first == '-') {
                at++;
            }
            if (!readNumber()) {
                return false;
            }
            if (first == '-') {
                number = -number;
            }
            return next() == ender;
        }

        private boolean readOperand() {
            char next = next();
            if (next == '-') {
                addSign(next);
                mode = OPERAND;
                return true;
            }
            if (next == '(') {
                addSign(next);
                open(PLAIN);
                return true;
            }
            if (isDigit(next)) {
                readNumber();
                add(Token.of(Token.CONSTANT, number));
                mode = AFTER_OPERAND;
                return true;
            }
            return readWord();
        }

        /** A letter alone may begin a reference or a word, two letters only a word. */
        private boolean readWord() {
            int longest = 0;
            for (int call = 0; call < WORDS; call++) {
                String word = Token.word(call);
                int same = sameLength(word);
                if (same == word.length()) {
                    at += same;
                    add(Token.of(Token.CALL, call));
                    open(call);
                    return true;
                }
                longest = Math.max(longest, same);
            }
            if (longest > 1 || !beginsReference(next())) {
                at += longest;
                return false;
            }
            int spot = readSpot(true);
            if (spot < 0) {
                return false;
            }
            add(Token.of(Token.SPOT, spot));
            mode = mode == ARGUMENT ? AFTER_CORNER : AFTER_OPERAND;
            return true;
        }

        private boolean readSecondCorner() {
            at++;
            int second = readSpot(true);
            if (second < 0 || tokenCount < 1) {
                return false;
            }
            tokens[tokenCount - 1] = Token.ofRange(Token.content(tokens[tokenCount - 1]), second);
            mode = AFTER_RANGE;
            return true;
        }

        private boolean readFollower() {
            char next = next();
            boolean fits;
            if (next == ')') {
                fits = close();
            } else if (next == ',') {
                fits = startPart();
            } else {
                fits = mode != AFTER_RANGE && continuesWith(next);
            }
            if (fits) {
                addSign(next);
            }
            return fits;
        }

        private boolean close() {
            if (depth < 1 || owners[depth] == IF && parts[depth] < PARTS_OF_IF) {
                return false;
            }
            depth--;
            mode = AFTER_OPERAND;
            return true;
        }

        private boolean startPart() {
            int owner = owners[depth];
            if (owner > COUNT && (owner != IF || parts[depth] >= PARTS_OF_IF)) {
                return false;
            }
            parts[depth]++;
            compared[depth] = false;
            mode = owner <= COUNT ? ARGUMENT : OPERAND;
            return true;
        }

        private boolean continuesWith(char sign) {
            if (sign == '<' || sign == '>' || sign == '=') {
                if (compared[depth]) {
                    return false;
                }
                compared[depth] = true;
            } else if (sign != '+' && sign != '-' && sign != '*' && sign != '/') {
                return false;
            }
            mode = OPERAND;
            return true;
        }

        private void open(int owner) {
            if (depth < MOST_CHARACTERS) {
                depth++;
            }
            owners[depth] = owner;
            parts[depth] = 1;
            compared[depth] = false;
            mode = owner <= COUNT ? ARGUMENT : OPERAND;
        }

        /**
         * The spot, or -1 with the reader at the character that does not fit.
         * A digit too many is left for what follows to refuse.
         */
        private int readSpot(boolean mayBeFixed) {
            int fixed = 0;
            if (mayBeFixed && next() == '$') {
                fixed = Token.FIXED_COLUMN;
                at++;
            }
            char column = next();
            if (column < 'A' || column > 'J') {
                return -1;
            }
            at++;
            if (mayBeFixed && next() == '$') {
                fixed += Token.FIXED_ROW;
                at++;
            }
            char first = next();
            if (first < '1' || first > '9') {
                return -1;
            }
            at++;
            int row = first - '0';
            char second = next();
            if (row == 1 && isDigit(second) || row == 2 && second == '0') {
                row = 10 * row + (second - '0');
                at++;
            }
            return fixed + COLUMNS * (row - 1) + (column - 'A');
        }

        private boolean readNumber() {
            number = 0;
            if (!isDigit(next())) {
                return false;
            }
            int digits = next() == '0' ? 1 : MOST_DIGITS;
            for (int digit = 0; digit < digits && isDigit(next()); digit++) {
                number = 10 * number + (next() - '0');
                at++;
            }
            return true;
        }

        private char next() {
            return at >= 0 && at < length ? characters[at] : END;
        }

        private int sameLength(String word) {
            int same = 0;
            while (same < word.length() && at + same < length && characters[at + same] == word.charAt(same)) {
                same++;
            }
            return same;
        }

        private void addSign(char sign) {
            add(Token.of(Token.SIGN, sign));
            at++;
        }

        private void add(int token) {
            if (tokenCount < MOST_TOKENS) {
                tokens[tokenCount] = token;
                tokenCount++;
            }
        }

        private static boolean beginsReference(char character) {
            return character == '$' || character >= 'A' && character <= 'J';
        }

        private static boolean isDigit(char character) {
            return character >= '0' && character <= '9';
        }
    }

    /** What is recorded and kept: the cells with their contents and results, and what was computed. */
    private static final class State {
        final int[] kinds = new int[CELLS];
        final int[] values = new int[CELLS];
        final int[] errorKinds = new int[CELLS];
        final int[] tokenCounts = new int[CELLS];
        final int[] tokens = new int[CELLS * MOST_TOKENS];
        int latestCount;
        int allCount;

        void takeAll(State other) {
            for (int cell = 0; cell < CELLS; cell++) {
                takeCell(cell, other, cell);
            }
            latestCount = other.latestCount;
            allCount = other.allCount;
        }

        void takeCell(int cell, State other, int source) {
            if (!isCell(cell) || !isCell(source)) {
                return;
            }
            kinds[cell] = other.kinds[source];
            values[cell] = other.values[source];
            errorKinds[cell] = other.errorKinds[source];
            takeTokens(cell, other.tokens, source * MOST_TOKENS, other.tokenCounts[source]);
        }

        void putRead(int cell, Pad pad) {
            if (!isCell(cell)) {
                return;
            }
            kinds[cell] = pad.kind;
            values[cell] = pad.number;
            errorKinds[cell] = NO_ERROR;
            takeTokens(cell, pad.tokens, 0, pad.tokenCount);
        }

        private void takeTokens(int cell, int[] source, int start, int count) {
            int most = Math.min(count, MOST_TOKENS);
            int base = cell * MOST_TOKENS;
            tokenCounts[cell] = Math.max(most, 0);
            for (int place = 0; place < most && start + place < source.length; place++) {
                tokens[base + place] = source[start + place];
            }
        }

        void putNumber(int cell, int number) {
            put(cell, NUMBER, number);
        }

        void putNothing(int cell) {
            put(cell, EMPTY, 0);
        }

        private void put(int cell, int kind, int number) {
            if (isCell(cell)) {
                kinds[cell] = kind;
                values[cell] = number;
                errorKinds[cell] = NO_ERROR;
                tokenCounts[cell] = 0;
            }
        }

        void putResult(int cell, int value, int error) {
            if (isCell(cell)) {
                values[cell] = error == NO_ERROR ? value : 0;
                errorKinds[cell] = error;
            }
        }

        void noteComputed(int count) {
            latestCount = count;
            allCount += count;
        }

        /** How many references and ranges become others. */
        int rewrite(int cell, Rewriting rewriting) {
            int changed = 0;
            int base = cell * MOST_TOKENS;
            for (int place = 0; place < tokenCounts[cell]; place++) {
                int token = tokens[base + place];
                int then = rewriting.tokenFor(token);
                if (then != token) {
                    tokens[base + place] = then;
                    changed++;
                }
            }
            return changed;
        }

        int rewriteAll(Rewriting rewriting) {
            int changed = 0;
            for (int cell = 0; cell < CELLS; cell++) {
                changed += rewrite(cell, rewriting);
            }
            return changed;
        }

        void write(int cell, StringBuilder text) {
            if (kinds[cell] != FORMULA) {
                return;
            }
            text.append('=');
            int base = cell * MOST_TOKENS;
            for (int place = 0; place < tokenCounts[cell]; place++) {
                Token.write(tokens[base + place], text);
            }
        }

        int countOfFilled() {
            int count = 0;
            for (int cell = 0; cell < CELLS; cell++) {
                if (kinds[cell] != EMPTY) {
                    count++;
                }
            }
            return count;
        }

        boolean filledIn(LineChange change, int line) {
            for (int cell = 0; cell < CELLS; cell++) {
                if (kinds[cell] != EMPTY && change.lineOf(cell) == line) {
                    return true;
                }
            }
            return false;
        }

        /** How many cells with a content an insertion moves, or a deletion takes away. */
        int filledTouched(LineChange change) {
            int count = 0;
            for (int cell = 0; cell < CELLS; cell++) {
                int line = change.lineOf(cell);
                boolean touched = change.inserting ? line >= change.line : line == change.line;
                if (touched && kinds[cell] != EMPTY) {
                    count++;
                }
            }
            return count;
        }

        int countOfErrors() {
            int count = 0;
            for (int cell = 0; cell < CELLS; cell++) {
                if (errorKinds[cell] != NO_ERROR) {
                    count++;
                }
            }
            return count;
        }

        /** Cells with an error, and empty ones, hold the value 0. */
        long total(int first, int step, int count) {
            long sum = 0;
            for (int place = 0; place < count; place++) {
                int cell = first + step * place;
                if (isCell(cell)) {
                    sum += values[cell];
                }
            }
            return sum;
        }

        int lowestWith(int value) {
            for (int cell = 0; cell < CELLS; cell++) {
                if (kinds[cell] != EMPTY && errorKinds[cell] == NO_ERROR && values[cell] == value) {
                    return cell;
                }
            }
            return -1;
        }
    }

    /** The recorded states; the oldest one gives its room to the next. */
    private static final class History {
        private static final int MOST = 4;

        private final State[] states = new State[MOST];
        private int newest;
        int recorded;

        History() {
            for (int place = 0; place < MOST; place++) {
                states[place] = new State();
            }
        }

        /** The state as it was recorded. */
        State record(State state) {
            newest = (newest + 1) % MOST;
            State record = states[newest];
            if (record == null) {
                return state;
            }
            record.takeAll(state);
            recorded = Math.min(recorded + 1, MOST);
            return record;
        }

        /** The latest recorded state, which is forgotten; null if there is none. */
        State takeLatest() {
            if (recorded < 1) {
                return null;
            }
            State latest = states[newest];
            recorded--;
            newest = (newest + MOST - 1) % MOST;
            return latest;
        }
    }

    /** Which cells the formulas refer to, and what follows from that: the order, what depends on what. */
    private static final class Links {
        private static final int LONGS = 4;

        /** Four longs for each cell: a bit for each cell to which it refers. */
        private final long[] referred = new long[CELLS * LONGS];
        final int[] formulaCells = new int[CELLS];
        int formulaCount;
        final int[] order = new int[CELLS];
        int placedCount;
        final int[] places = new int[CELLS];
        private final int[] waits = new int[CELLS];
        final boolean[] marks = new boolean[CELLS];
        private final int[] queue = new int[CELLS];
        private final int[] lengths = new int[CELLS];

        Links() {
            for (int cell = 0; cell < CELLS; cell++) {
                places[cell] = -1;
            }
        }

        void build(State state) {
            formulaCount = 0;
            for (int cell = 0; cell < CELLS; cell++) {
                places[cell] = -1;
                for (int part = 0; part < LONGS; part++) {
                    referred[cell * LONGS + part] = 0;
                }
                if (state.kinds[cell] == FORMULA) {
                    formulaCells[formulaCount] = cell;
                    formulaCount++;
                    addReferred(cell, state);
                }
            }
            buildOrder();
        }

        private void addReferred(int cell, State state) {
            int base = cell * MOST_TOKENS;
            for (int place = 0; place < state.tokenCounts[cell]; place++) {
                int token = state.tokens[base + place];
                if (Token.kind(token) == Token.SPOT) {
                    addLink(cell, Token.cell(Token.content(token)));
                } else if (Token.kind(token) == Token.RANGE) {
                    addRange(cell, Token.cell(Token.firstCorner(token)), Token.cell(Token.secondCorner(token)));
                }
            }
        }

        private void addRange(int cell, int corner, int other) {
            int lastRow = Math.max(corner / COLUMNS, other / COLUMNS);
            int lastColumn = Math.max(corner % COLUMNS, other % COLUMNS);
            for (int row = Math.min(corner / COLUMNS, other / COLUMNS); row <= lastRow; row++) {
                for (int column = Math.min(corner % COLUMNS, other % COLUMNS); column <= lastColumn; column++) {
                    addLink(cell, COLUMNS * row + column);
                }
            }
        }

        private void addLink(int cell, int other) {
            referred[cell * LONGS + (other >> 6)] |= 1L << (other & 63);
        }

        boolean refers(int cell, int other) {
            return (referred[cell * LONGS + (other >> 6)] >>> (other & 63) & 1L) != 0;
        }

        private void buildOrder() {
            placedCount = 0;
            for (int place = 0; place < formulaCount; place++) {
                waits[formulaCells[place]] = countOfReferredFormulas(formulaCells[place]);
            }
            for (int turn = 0; turn < formulaCount; turn++) {
                int next = lowestReady();
                if (next < 0) {
                    break;
                }
                order[placedCount] = next;
                places[next] = placedCount;
                placedCount++;
                for (int place = 0; place < formulaCount; place++) {
                    if (refers(formulaCells[place], next)) {
                        waits[formulaCells[place]]--;
                    }
                }
            }
        }

        private int countOfReferredFormulas(int cell) {
            int count = 0;
            for (int place = 0; place < formulaCount; place++) {
                if (refers(cell, formulaCells[place])) {
                    count++;
                }
            }
            return count;
        }

        private int lowestReady() {
            for (int place = 0; place < formulaCount; place++) {
                int cell = formulaCells[place];
                if (places[cell] < 0 && waits[cell] == 0) {
                    return cell;
                }
            }
            return -1;
        }

        int countOfReferred(int cell) {
            int count = 0;
            for (int part = 0; part < LONGS; part++) {
                count += Long.bitCount(referred[cell * LONGS + part]);
            }
            return count;
        }

        int referredAt(int cell, int place) {
            int passed = 0;
            for (int other = 0; other < CELLS; other++) {
                if (refers(cell, other)) {
                    if (passed == place) {
                        return other;
                    }
                    passed++;
                }
            }
            return -1;
        }

        int countOfUsers(int cell) {
            int count = 0;
            for (int place = 0; place < formulaCount; place++) {
                if (refers(formulaCells[place], cell)) {
                    count++;
                }
            }
            return count;
        }

        /** Marks the formulas that depend on the cell (the cell itself only if it is a ring). */
        void markUsersOf(int cell) {
            clearMarks();
            int waiting = markStep(cell, true, 0);
            for (int done = 0; done < waiting && done < CELLS; done++) {
                waiting = markStep(queue[done], true, waiting);
            }
        }

        /** Marks the cell and the formulas on which it depends. */
        void markNeededBy(int cell) {
            clearMarks();
            marks[cell] = true;
            int waiting = markStep(cell, false, 0);
            for (int done = 0; done < waiting && done < CELLS; done++) {
                waiting = markStep(queue[done], false, waiting);
            }
        }

        /** Marks what is one step from the cell, and puts it into the queue, whose new length is told. */
        private int markStep(int cell, boolean toUsers, int waiting) {
            int length = waiting;
            for (int place = 0; place < formulaCount; place++) {
                int other = formulaCells[place];
                boolean near = toUsers ? refers(other, cell) : refers(cell, other);
                if (near && !marks[other] && length < CELLS) {
                    marks[other] = true;
                    queue[length] = other;
                    length++;
                }
            }
            return length;
        }

        private void clearMarks() {
            for (int cell = 0; cell < CELLS; cell++) {
                marks[cell] = false;
            }
        }

        void markAllFormulas() {
            clearMarks();
            for (int place = 0; place < formulaCount; place++) {
                marks[formulaCells[place]] = true;
            }
        }

        int markedFormulas() {
            int count = 0;
            for (int place = 0; place < formulaCount; place++) {
                if (marks[formulaCells[place]]) {
                    count++;
                }
            }
            return count;
        }

        int chainLength(int cell) {
            if (places[cell] < 0) {
                return 0;
            }
            for (int place = 0; place < placedCount; place++) {
                int longest = 0;
                for (int earlier = 0; earlier < place; earlier++) {
                    if (refers(order[place], order[earlier])) {
                        longest = Math.max(longest, lengths[order[earlier]]);
                    }
                }
                lengths[order[place]] = longest + 1;
            }
            return lengths[cell];
        }
    }

    /** Cells, how they hang together, and the computing of their formulas. */
    private static final class Calculation {
        private static final long GREATEST = 999999999L;
        /** No result is so small: it tells that MIN and MAX have met nothing. */
        private static final long NOTHING = -GREATEST - 1;
        /** 60 characters open and close 29 brackets. */
        private static final int DEEPEST = 30;

        final State cells = new State();
        final Links links = new Links();
        /** The token that comes next, where the formula ends, and the first error that was met. */
        private int at;
        private int end;
        private int error;

        void become(State state) {
            cells.takeAll(state);
            links.build(cells);
        }

        int computeAll() {
            links.build(cells);
            links.markAllFormulas();
            int computed = computeMarked();
            cells.noteComputed(computed);
            return computed;
        }

        /** Computes what the cell's new content concerns. */
        int computeFrom(int cell) {
            links.build(cells);
            links.markUsersOf(cell);
            if (cells.kinds[cell] == FORMULA) {
                links.marks[cell] = true;
            }
            int computed = computeMarked();
            cells.noteComputed(computed);
            return computed;
        }

        /** Forgets all results, and computes again what the cell needs. */
        void computeAnew(int cell) {
            for (int place = 0; place < links.formulaCount; place++) {
                cells.putResult(links.formulaCells[place], 0, NO_ERROR);
            }
            links.markNeededBy(cell);
            computeMarked();
        }

        int computeMarked() {
            for (int place = 0; place < links.placedCount; place++) {
                int cell = links.order[place];
                if (links.marks[cell]) {
                    at = cell * MOST_TOKENS;
                    end = at + cells.tokenCounts[cell];
                    error = NO_ERROR;
                    long result = comparison(0);
                    cells.putResult(cell, (int) result, error);
                }
            }
            for (int place = 0; place < links.formulaCount; place++) {
                int cell = links.formulaCells[place];
                if (links.marks[cell] && links.places[cell] < 0) {
                    cells.putResult(cell, 0, CYCLE);
                }
            }
            return links.markedFormulas();
        }

        private long comparison(int depth) {
            if (depth > DEEPEST) {
                return failed(SIZE);
            }
            long left = sum(depth);
            char sign = sign();
            if (error != NO_ERROR || sign != '<' && sign != '>' && sign != '=') {
                return left;
            }
            at++;
            long right = sum(depth);
            boolean holds = sign == '<' ? left < right : sign == '>' ? left > right : left == right;
            return holds ? 1 : 0;
        }

        private long sum(int depth) {
            long result = product(depth);
            for (int step = 0; step < MOST_TOKENS && error == NO_ERROR; step++) {
                char sign = sign();
                if (sign != '+' && sign != '-') {
                    break;
                }
                at++;
                long right = product(depth);
                result = limited(sign == '+' ? result + right : result - right);
            }
            return result;
        }

        private long product(int depth) {
            long result = factor(depth);
            for (int step = 0; step < MOST_TOKENS && error == NO_ERROR; step++) {
                char sign = sign();
                if (sign != '*' && sign != '/') {
                    break;
                }
                at++;
                long right = factor(depth);
                result = sign == '*' ? limited(result * right) : quotient(result, right);
            }
            return result;
        }

        private long quotient(long left, long right) {
            if (right == 0) {
                return failed(DIVISION);
            }
            return Math.floorDiv(left, right);
        }

        private long factor(int depth) {
            boolean negative = false;
            for (int step = 0; step < MOST_TOKENS && sign() == '-'; step++) {
                negative = !negative;
                at++;
            }
            long result = primary(depth);
            return negative ? -result : result;
        }

        private long primary(int depth) {
            int token = token();
            at++;
            switch (Token.kind(token)) {
                case Token.CONSTANT:
                    return Token.content(token);
                case Token.SPOT:
                    return valueOf(Token.cell(Token.content(token)));
                case Token.CALL:
                    return call(Token.content(token), depth + 1);
                case Token.SIGN:
                    return bracketed(depth + 1);
                default:
                    return failed(REFERENCE);
            }
        }

        private long valueOf(int cell) {
            if (cells.errorKinds[cell] != NO_ERROR) {
                return failed(cells.errorKinds[cell]);
            }
            return cells.values[cell];
        }

        private long call(int word, int depth) {
            if (word == IF) {
                return choice(depth);
            }
            if (word == ABS) {
                return Math.abs(bracketed(depth));
            }
            return gathered(word, depth);
        }

        private long bracketed(int depth) {
            long inside = comparison(depth);
            at++;
            return inside;
        }

        private long choice(int depth) {
            boolean holds = comparison(depth) != 0;
            if (error != NO_ERROR) {
                return 0;
            }
            at++;
            if (!holds) {
                skipPart();
                at++;
            }
            long chosen = comparison(depth);
            if (holds) {
                at++;
                skipPart();
            }
            at++;
            return chosen;
        }

        /** Goes to the "," or ")" that ends the part here, without computing it. */
        private void skipPart() {
            int open = 0;
            for (int step = 0; step < MOST_TOKENS && at < end; step++) {
                if (open == 0 && (sign() == ',' || sign() == ')')) {
                    break;
                }
                if (Token.isOpening(token())) {
                    open++;
                } else if (sign() == ')') {
                    open--;
                }
                at++;
            }
        }

        private long gathered(int word, int depth) {
            long result = word == MIN || word == MAX ? NOTHING : 0;
            for (int part = 0; part < MOST_TOKENS && error == NO_ERROR; part++) {
                if (Token.kind(token()) == Token.RANGE) {
                    result = joinedRange(word, result, token());
                    at++;
                } else {
                    result = joined(word, result, comparison(depth));
                }
                boolean more = sign() == ',';
                at++;
                if (!more) {
                    break;
                }
            }
            if (error != NO_ERROR) {
                return 0;
            }
            return result == NOTHING ? failed(VALUES) : result;
        }

        private long joinedRange(int word, long result, int token) {
            int corner = Token.cell(Token.firstCorner(token));
            int other = Token.cell(Token.secondCorner(token));
            int lastRow = Math.max(corner / COLUMNS, other / COLUMNS);
            int firstColumn = Math.min(corner % COLUMNS, other % COLUMNS);
            int lastColumn = Math.max(corner % COLUMNS, other % COLUMNS);
            long whole = result;
            for (int row = Math.min(corner / COLUMNS, other / COLUMNS); row <= lastRow; row++) {
                for (int column = firstColumn; column <= lastColumn && error == NO_ERROR; column++) {
                    int cell = COLUMNS * row + column;
                    if (cells.kinds[cell] != EMPTY) {
                        whole = joined(word, whole, word == COUNT ? 1 : valueOf(cell));
                    }
                }
            }
            return whole;
        }

        private long joined(int word, long result, long value) {
            if (error != NO_ERROR) {
                return result;
            }
            switch (word) {
                case SUM:
                    return limited(result + value);
                case MIN:
                    return result == NOTHING || value < result ? value : result;
                case MAX:
                    return value > result ? value : result;
                default:
                    return result + 1;
            }
        }

        private int token() {
            return at >= 0 && at < end && at < cells.tokens.length ? cells.tokens[at] : Token.NONE;
        }

        private char sign() {
            int token = token();
            if (Token.kind(token) != Token.SIGN) {
                return 0;
            }
            return (char) Token.content(token);
        }

        private long limited(long result) {
            if (error != NO_ERROR) {
                return 0;
            }
            if (result < -GREATEST || result > GREATEST) {
                error = SIZE;
                return 0;
            }
            return result;
        }

        /** The first error stays: what comes after it is looked at no more. */
        private long failed(int kind) {
            if (error == NO_ERROR) {
                error = kind;
            }
            return 0;
        }
    }

    /** A change of the references in formulas. */
    private abstract static class Rewriting {
        /** The spot that a reference has then; -1 if it is broken. */
        abstract int spotFor(int spot);

        /** The same for the corner of a range, whose other corner is told. */
        abstract int cornerFor(int spot, int other);

        final int tokenFor(int token) {
            if (Token.kind(token) == Token.SPOT) {
                int spot = spotFor(Token.content(token));
                return spot < 0 ? Token.of(Token.BROKEN, 0) : Token.of(Token.SPOT, spot);
            }
            if (Token.kind(token) == Token.RANGE) {
                int first = cornerFor(Token.firstCorner(token), Token.secondCorner(token));
                int second = cornerFor(Token.secondCorner(token), Token.firstCorner(token));
                return first < 0 || second < 0 ? Token.of(Token.BROKEN, 0) : Token.ofRange(first, second);
            }
            return token;
        }
    }

    private static final class Copying extends Rewriting {
        private final int rowStep;
        private final int columnStep;

        Copying(int rowStep, int columnStep) {
            this.rowStep = rowStep;
            this.columnStep = columnStep;
        }

        int spotFor(int spot) {
            int cell = Token.cell(spot);
            int row = cell / COLUMNS;
            int column = cell % COLUMNS;
            if ((spot & Token.FIXED_ROW) == 0) {
                row += rowStep;
            }
            if ((spot & Token.FIXED_COLUMN) == 0) {
                column += columnStep;
            }
            if (row < 0 || row >= ROWS || column < 0 || column >= COLUMNS) {
                return -1;
            }
            return spot - cell + COLUMNS * row + column;
        }

        int cornerFor(int spot, int other) {
            return spotFor(spot);
        }
    }

    private static final class Moving extends Rewriting {
        private final int from;
        private final int to;

        Moving(int from, int to) {
            this.from = from;
            this.to = to;
        }

        int spotFor(int spot) {
            int cell = Token.cell(spot);
            if (cell == to) {
                return -1;
            }
            return cell == from ? spot - from + to : spot;
        }

        int cornerFor(int spot, int other) {
            return spot;
        }
    }

    /** The insertion or deletion of a line, which is a row or a column. */
    private static final class LineChange extends Rewriting {
        private final boolean ofRows;
        final int line;
        final boolean inserting;

        LineChange(boolean ofRows, int line, boolean inserting) {
            this.ofRows = ofRows;
            this.line = line;
            this.inserting = inserting;
        }

        int lineOf(int cell) {
            return ofRows ? cell / COLUMNS : cell % COLUMNS;
        }

        int lastLine() {
            return ofRows ? ROWS - 1 : COLUMNS - 1;
        }

        private int step() {
            return ofRows ? COLUMNS : 1;
        }

        /** The cell whose content comes to this one; -1 if it becomes empty. */
        int sourceOf(int cell) {
            int here = lineOf(cell);
            if (here < line) {
                return cell;
            }
            if (inserting) {
                return here == line ? -1 : cell - step();
            }
            return here == lastLine() ? -1 : cell + step();
        }

        int spotFor(int spot) {
            int here = lineOf(Token.cell(spot));
            if (here < line) {
                return spot;
            }
            if (inserting) {
                return here == lastLine() ? -1 : spot + step();
            }
            return here == line ? -1 : spot - step();
        }

        int cornerFor(int spot, int other) {
            int here = lineOf(Token.cell(spot));
            int opposite = lineOf(Token.cell(other));
            if (here < line || inserting && here == lastLine()) {
                return spot;
            }
            if (inserting) {
                return spot + step();
            }
            if (here == line && opposite == line) {
                return -1;
            }
            return here == line && opposite > line ? spot : spot - step();
        }
    }
}
