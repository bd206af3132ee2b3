import java.util.Arrays;

/** Sparse tables that are pushed into one row of cells; what each call answers is told by the promises of DOC.md. */
public final class PushedTables {
    public static final int INVALID_ARGUMENT = -1;
    public static final int ILLEGAL_STATE = -2;
    public static final int CAPACITY_EXCEEDED = -3;
    public static final int NONE = -9;

    private static final int MOST_ROWS = 24;
    private static final int MOST_FORMS = MOST_ROWS;
    private static final int COLUMNS = 16;
    private static final int ALL_COLUMNS = (1 << COLUMNS) - 1;
    private static final int GREATEST_VALUE = 99;
    private static final int CELLS = 800;
    private static final int GREATEST_SHIFT = CELLS - COLUMNS;
    private static final int MOST_STATES = 5;
    private static final int LONGEST_TEXT = 100;
    private static final int GREATEST_CHARACTER = 255;
    private static final int FAILED_AT_START = -1000;

    private final Table table = new Table();
    private final Table forecast = new Table();
    private final History history = new History();
    private final Text text = new Text();

    public PushedTables() {
    }

    // ---- rows

    public int add(int value) {
        if (!isValue(value)) {
            return INVALID_ARGUMENT;
        }
        if (table.state.rowCount >= MOST_ROWS) {
            return CAPACITY_EXCEEDED;
        }
        history.remember(table.state);
        return table.state.addRow(value);
    }

    public int set(int row, int column, int value) {
        if (!isRow(row) || !isColumn(column) || !isValue(value)) {
            return INVALID_ARGUMENT;
        }
        history.remember(table.state);
        int previous = table.state.valueAt(row, column);
        table.state.changeValue(row, column, value);
        table.settle(row);
        return previous;
    }

    public int setDefault(int row, int value) {
        if (!isRow(row) || !isValue(value)) {
            return INVALID_ARGUMENT;
        }
        history.remember(table.state);
        table.state.changeDefault(row, value);
        table.settle(row);
        return table.state.weightOf(row);
    }

    public int removeLast() {
        if (table.state.rowCount <= 0) {
            return ILLEGAL_STATE;
        }
        history.remember(table.state);
        table.leaveForm(table.state.rowCount - 1);
        table.state.rowCount--;
        return table.state.rowCount;
    }

    public int slim(int row) {
        if (!isRow(row)) {
            return INVALID_ARGUMENT;
        }
        history.remember(table.state);
        table.state.slimDefault(row);
        table.settle(row);
        return table.state.defaultOf(row);
    }

    public int push() {
        history.remember(table.state);
        table.pushAnewByWeights();
        return table.store.endOfCells();
    }

    public int undo() {
        State latest = history.takeLatest();
        if (latest == null) {
            return ILLEGAL_STATE;
        }
        table.restore(latest);
        return history.size;
    }

    // ---- texts

    public int append(int character) {
        if (character < 1 || character > GREATEST_CHARACTER) {
            return INVALID_ARGUMENT;
        }
        if (text.length >= LONGEST_TEXT) {
            return CAPACITY_EXCEEDED;
        }
        text.appendSign((char) character);
        return text.length;
    }

    public int clearText() {
        int previous = text.length;
        text.length = 0;
        return previous;
    }

    public int read() {
        if (!text.readTable(MOST_ROWS - table.state.rowCount)) {
            return FAILED_AT_START - text.place;
        }
        history.remember(table.state);
        for (int rowRead = 0; rowRead < text.rowsRead; rowRead++) {
            addRowOfText(rowRead);
        }
        text.length = 0;
        return text.rowsRead;
    }

    // ---- looking

    public int get(int row, int column) {
        if (!isRow(row) || !isColumn(column)) {
            return INVALID_ARGUMENT;
        }
        return table.lookUp(row, column);
    }

    public int count(int what) {
        switch (what) {
            case 0:
                return table.state.rowCount;
            case 1:
                return table.state.formCount();
            case 2:
                return table.state.weightSum();
            case 3:
                return table.store.filledCells();
            case 4:
                return table.store.endOfCells();
            case 5:
                return table.store.endOfCells() - table.store.filledCells();
            case 6:
                return table.refusals();
            case 7:
                return history.size;
            case 8:
                return text.length;
            default:
                return INVALID_ARGUMENT;
        }
    }

    public int row(int row, int what) {
        if (!isRow(row)) {
            return INVALID_ARGUMENT;
        }
        switch (what) {
            case 0:
                return table.state.defaultOf(row);
            case 1:
                return table.state.weightOf(row);
            case 2:
                return table.state.formOf(row);
            case 3:
                return table.state.shiftOf(table.state.formOf(row));
            case 4:
                return table.state.columnsOf(row);
            default:
                return INVALID_ARGUMENT;
        }
    }

    public int form(int form, int what) {
        if (form < 0 || form >= MOST_FORMS || what < 0 || what > 2) {
            return INVALID_ARGUMENT;
        }
        int shift = table.state.shiftOf(form);
        if (shift == NONE || what == 0) {
            return shift;
        }
        return what == 1 ? table.state.sharersOf(form) : table.store.filledOf(form, shift);
    }

    public int cell(int cell, int what) {
        if (cell < 0 || cell >= CELLS || what < 0 || what > 1) {
            return INVALID_ARGUMENT;
        }
        return what == 0 ? table.store.valueAt(cell) : table.store.markAt(cell);
    }

    // ---- what could be, which changes nothing

    public int fit(int columns) {
        if (columns < 1 || columns > ALL_COLUMNS) {
            return INVALID_ARGUMENT;
        }
        return table.store.firstFit(columns);
    }

    public int endBy(int order) {
        if (order != 0 && order != 1) {
            return INVALID_ARGUMENT;
        }
        forecast.state.copyFrom(table.state);
        if (order == 0) {
            forecast.pushAnewByWeights();
        } else {
            forecast.pushAnewByNumbers();
        }
        return forecast.store.endOfCells();
    }

    public int slimmer() {
        int less = 0;
        for (int row = 0; row < table.state.rowCount; row++) {
            less += table.state.slimmerBy(row);
        }
        return less;
    }

    public int like(int row) {
        if (!isRow(row)) {
            return INVALID_ARGUMENT;
        }
        return table.state.mostLike(row);
    }

    /** Adds a row with all its entries at once, so that it is looked for a form only then. */
    private void addRowOfText(int rowRead) {
        int row = table.state.addRow(text.defaultRead(rowRead));
        if (row == NONE) {
            return;
        }
        for (int column = 0; column < COLUMNS; column++) {
            table.state.changeValue(row, column, text.valueRead(rowRead, column));
        }
        table.settle(row);
    }

    // ---- what arguments may be

    private boolean isRow(int row) {
        return row >= 0 && row < table.state.rowCount;
    }

    private static boolean isColumn(int column) {
        return column >= 0 && column < COLUMNS;
    }

    private static boolean isValue(int value) {
        return value >= 0 && value <= GREATEST_VALUE;
    }

    // ---- arrays: no index that is handed over is used before it is looked at

    /** NONE outside of the array. */
    private static int numberAt(int[] numbers, int index) {
        return index >= 0 && index < numbers.length ? numbers[index] : NONE;
    }

    private static void putAt(int[] numbers, int index, int number) {
        if (index >= 0 && index < numbers.length) {
            numbers[index] = number;
        }
    }

    /** The rows, the forms that they share and the shifts of these: all that undo keeps, as the cells follow from it. */
    private static final class State {
        int rowCount = 0;
        private final int[] defaults = new int[MOST_ROWS];
        private final int[] values = new int[MOST_ROWS * COLUMNS];
        /** By the row's number; NONE without a form. */
        private final int[] forms = new int[MOST_ROWS];
        /** By the form's number; NONE if no form has it. */
        private final int[] shifts = new int[MOST_FORMS];

        State() {
            forgetForms();
        }

        void copyFrom(State other) {
            rowCount = other.rowCount;
            System.arraycopy(other.defaults, 0, defaults, 0, MOST_ROWS);
            System.arraycopy(other.values, 0, values, 0, MOST_ROWS * COLUMNS);
            System.arraycopy(other.forms, 0, forms, 0, MOST_ROWS);
            System.arraycopy(other.shifts, 0, shifts, 0, MOST_FORMS);
        }

        void forgetForms() {
            Arrays.fill(forms, NONE);
            Arrays.fill(shifts, NONE);
        }

        /** Answers the new row's number, or NONE if there is no room. */
        int addRow(int value) {
            if (rowCount < 0 || rowCount >= MOST_ROWS) {
                return NONE;
            }
            int row = rowCount;
            defaults[row] = value;
            Arrays.fill(values, row * COLUMNS, (row + 1) * COLUMNS, value);
            forms[row] = NONE;
            rowCount++;
            return row;
        }

        int defaultOf(int row) {
            return numberAt(defaults, row);
        }

        int valueAt(int row, int column) {
            return numberAt(values, row * COLUMNS + column);
        }

        void changeValue(int row, int column, int value) {
            putAt(values, row * COLUMNS + column, value);
        }

        /** The cells that are no entries get the new default, too. */
        void changeDefault(int row, int value) {
            for (int column = 0; column < COLUMNS; column++) {
                if (!isEntry(row, column)) {
                    changeValue(row, column, value);
                }
            }
            putAt(defaults, row, value);
        }

        /** The values of all cells stay, so that other cells are entries then. */
        void slimDefault(int row) {
            putAt(defaults, row, commonestValue(row));
        }

        boolean isEntry(int row, int column) {
            return numberAt(values, row * COLUMNS + column) != numberAt(defaults, row);
        }

        int columnsOf(int row) {
            int columns = 0;
            for (int column = 0; column < COLUMNS; column++) {
                if (isEntry(row, column)) {
                    columns |= 1 << column;
                }
            }
            return columns;
        }

        int weightOf(int row) {
            return Integer.bitCount(columnsOf(row));
        }

        int weightSum() {
            int sum = 0;
            for (int row = 0; row < rowCount; row++) {
                sum += weightOf(row);
            }
            return sum;
        }

        /** The value that most cells of the row have, of several the smallest one. */
        int commonestValue(int row) {
            int best = valueAt(row, 0);
            int bestCount = cellsWith(row, best);
            for (int column = 1; column < COLUMNS; column++) {
                int value = valueAt(row, column);
                int count = cellsWith(row, value);
                if (count > bestCount || count == bestCount && value < best) {
                    best = value;
                    bestCount = count;
                }
            }
            return best;
        }

        /** By how much the row's weight would fall if the row was slimmed. */
        int slimmerBy(int row) {
            int slimWeight = COLUMNS - cellsWith(row, commonestValue(row));
            return weightOf(row) - slimWeight;
        }

        private int cellsWith(int row, int value) {
            int count = 0;
            for (int column = 0; column < COLUMNS; column++) {
                if (valueAt(row, column) == value) {
                    count++;
                }
            }
            return count;
        }

        int mostLike(int row) {
            int best = NONE;
            int bestCount = -1;
            for (int other = 0; other < rowCount; other++) {
                int count = equalCells(row, other);
                if (other != row && count > bestCount) {
                    best = other;
                    bestCount = count;
                }
            }
            return best;
        }

        private int equalCells(int row, int other) {
            int count = 0;
            for (int column = 0; column < COLUMNS; column++) {
                if (valueAt(row, column) == valueAt(other, column)) {
                    count++;
                }
            }
            return count;
        }

        int formOf(int row) {
            return numberAt(forms, row);
        }

        void giveForm(int row, int form) {
            putAt(forms, row, form);
        }

        int shiftOf(int form) {
            return numberAt(shifts, form);
        }

        void changeShift(int form, int shift) {
            putAt(shifts, form, shift);
        }

        int formCount() {
            int count = 0;
            for (int form = 0; form < MOST_FORMS; form++) {
                if (shiftOf(form) != NONE) {
                    count++;
                }
            }
            return count;
        }

        int sharersOf(int form) {
            int count = 0;
            for (int row = 0; row < rowCount; row++) {
                if (formOf(row) == form) {
                    count++;
                }
            }
            return count;
        }

        /** The smallest number that no form has; there is one while some row has no form. */
        int freeForm() {
            for (int form = 0; form < MOST_FORMS; form++) {
                if (shiftOf(form) == NONE) {
                    return form;
                }
            }
            return NONE;
        }
    }

    /** The row of cells. */
    private static final class Store {
        /** NONE where the cell is empty, in both. */
        private final int[] values = new int[CELLS];
        private final int[] marks = new int[CELLS];

        Store() {
            emptyAll();
        }

        void emptyAll() {
            Arrays.fill(values, NONE);
            Arrays.fill(marks, NONE);
        }

        void fillCell(int cell, int value, int mark) {
            putAt(values, cell, value);
            putAt(marks, cell, mark);
        }

        int valueAt(int cell) {
            return numberAt(values, cell);
        }

        int markAt(int cell) {
            return numberAt(marks, cell);
        }

        boolean isEmptyAt(int cell) {
            return numberAt(marks, cell) == NONE;
        }

        void takeOut(int form, int shift) {
            for (int cell = shift; cell < shift + COLUMNS; cell++) {
                if (markAt(cell) == form) {
                    fillCell(cell, NONE, NONE);
                }
            }
        }

        int filledOf(int form, int shift) {
            int count = 0;
            for (int cell = shift; cell < shift + COLUMNS; cell++) {
                if (markAt(cell) == form) {
                    count++;
                }
            }
            return count;
        }

        /** The smallest shift at which all the columns' cells are empty; 24 forms can't leave none. */
        int firstFit(int columns) {
            for (int shift = 0; shift <= GREATEST_SHIFT; shift++) {
                if (fitsAt(shift, columns)) {
                    return shift;
                }
            }
            return NONE;
        }

        private boolean fitsAt(int shift, int columns) {
            for (int column = 0; column < COLUMNS; column++) {
                if ((columns >> column & 1) == 1 && numberAt(marks, shift + column) != NONE) {
                    return false;
                }
            }
            return true;
        }

        int endOfCells() {
            for (int cell = CELLS - 1; cell >= 0; cell--) {
                if (!isEmptyAt(cell)) {
                    return cell + 1;
                }
            }
            return 0;
        }

        int filledCells() {
            int count = 0;
            for (int cell = 0; cell < CELLS; cell++) {
                if (!isEmptyAt(cell)) {
                    count++;
                }
            }
            return count;
        }
    }

    /** A state together with the cells that belong to it. */
    private static final class Table {
        final State state = new State();
        final Store store = new Store();

        void restore(State earlier) {
            state.copyFrom(earlier);
            store.emptyAll();
            for (int row = 0; row < state.rowCount; row++) {
                fillCellsOf(row);
            }
        }

        /** Writes the row's entries at the shift of its form, if it has one. */
        private void fillCellsOf(int row) {
            int form = state.formOf(row);
            int shift = state.shiftOf(form);
            if (shift == NONE) {
                return;
            }
            for (int column = 0; column < COLUMNS; column++) {
                if (state.isEntry(row, column)) {
                    store.fillCell(shift + column, state.valueAt(row, column), form);
                }
            }
        }

        /** Gives the row the form that its entries ask for; a form that still has them stays. */
        void settle(int row) {
            if (hasEntriesOf(state.formOf(row), row)) {
                return;
            }
            leaveForm(row);
            int columns = state.columnsOf(row);
            if (columns == 0) {
                return;
            }
            int form = formWithEntriesOf(row);
            if (form == NONE) {
                pushNewForm(row, columns);
            } else {
                state.giveForm(row, form);
            }
        }

        /** Takes the row's form from it, and out of the store if it was the last one that had it. */
        void leaveForm(int row) {
            int form = state.formOf(row);
            int shift = state.shiftOf(form);
            state.giveForm(row, NONE);
            if (shift != NONE && state.sharersOf(form) == 0) {
                store.takeOut(form, shift);
                state.changeShift(form, NONE);
            }
        }

        private int formWithEntriesOf(int row) {
            for (int form = 0; form < MOST_FORMS; form++) {
                if (hasEntriesOf(form, row)) {
                    return form;
                }
            }
            return NONE;
        }

        /** The store itself tells a form's entries: they are the cells with its mark. */
        private boolean hasEntriesOf(int form, int row) {
            int shift = state.shiftOf(form);
            if (shift == NONE) {
                return false;
            }
            for (int column = 0; column < COLUMNS; column++) {
                boolean marked = store.markAt(shift + column) == form;
                if (marked != state.isEntry(row, column)) {
                    return false;
                }
                if (marked && store.valueAt(shift + column) != state.valueAt(row, column)) {
                    return false;
                }
            }
            return true;
        }

        private void pushNewForm(int row, int columns) {
            int form = state.freeForm();
            int shift = store.firstFit(columns);
            if (form == NONE || shift == NONE) {
                return;
            }
            state.giveForm(row, form);
            state.changeShift(form, shift);
            fillCellsOf(row);
        }

        void pushAnewByWeights() {
            takeOutAll();
            for (int weight = COLUMNS; weight >= 1; weight--) {
                for (int row = 0; row < state.rowCount; row++) {
                    if (state.weightOf(row) == weight) {
                        settle(row);
                    }
                }
            }
        }

        void pushAnewByNumbers() {
            takeOutAll();
            for (int row = 0; row < state.rowCount; row++) {
                settle(row);
            }
        }

        private void takeOutAll() {
            state.forgetForms();
            store.emptyAll();
        }

        int lookUp(int row, int column) {
            int form = state.formOf(row);
            int shift = state.shiftOf(form);
            if (shift != NONE && store.markAt(shift + column) == form) {
                return store.valueAt(shift + column);
            }
            return state.defaultOf(row);
        }

        int refusals() {
            int sum = 0;
            for (int row = 0; row < state.rowCount; row++) {
                sum += refusalsOf(row);
            }
            return sum;
        }

        private int refusalsOf(int row) {
            int form = state.formOf(row);
            int shift = state.shiftOf(form);
            if (shift == NONE) {
                return 0;
            }
            int count = 0;
            for (int cell = shift; cell < shift + COLUMNS; cell++) {
                if (!store.isEmptyAt(cell) && store.markAt(cell) != form) {
                    count++;
                }
            }
            return count;
        }
    }

    /** The latest states, the oldest first. */
    private static final class History {
        int size = 0;
        private final State[] states = new State[MOST_STATES];

        History() {
            for (int i = 0; i < MOST_STATES; i++) {
                states[i] = new State();
            }
        }

        void remember(State state) {
            if (size >= MOST_STATES) {
                dropOldest();
            }
            if (size >= 0) {
                states[size].copyFrom(state);
                size++;
            }
        }

        /** The oldest state's object is used again, behind the others. */
        private void dropOldest() {
            State oldest = states[0];
            for (int i = 1; i < MOST_STATES; i++) {
                states[i - 1] = states[i];
            }
            states[MOST_STATES - 1] = oldest;
            size = MOST_STATES - 1;
        }

        /** Takes the latest state out of the history; null if there is none. */
        State takeLatest() {
            if (size <= 0 || size > MOST_STATES) {
                return null;
            }
            size--;
            return states[size];
        }
    }

    /** The characters, and the rows that are read from them: rows of its own, so that a text that fails changes nothing. */
    private static final class Text {
        int length = 0;
        private final char[] signs = new char[LONGEST_TEXT];
        /** Where the reading stands; once it has failed, the place of the failure. */
        int place = 0;
        private int number = 0;
        private int numberPlace = 0;
        int rowsRead = 0;
        private final int[] defaults = new int[MOST_ROWS];
        private final int[] values = new int[MOST_ROWS * COLUMNS];

        void appendSign(char sign) {
            if (length < LONGEST_TEXT) {
                signs[length] = sign;
                length++;
            }
        }

        int defaultRead(int row) {
            return numberAt(defaults, row);
        }

        int valueRead(int row, int column) {
            return numberAt(values, row * COLUMNS + column);
        }

        private void beginRow(int row, int value) {
            putAt(defaults, row, value);
            for (int column = 0; column < COLUMNS; column++) {
                putAt(values, row * COLUMNS + column, value);
            }
        }

        /** Answers whether all of the text is a table of at most so many rows. */
        boolean readTable(int room) {
            place = 0;
            for (int row = 0; row <= room; row++) {
                skipSpaces();
                if (place >= length) {
                    rowsRead = row;
                    return true;
                }
                if (row == room || !readRow(row)) {
                    return false;
                }
            }
            return false;
        }

        private boolean readRow(int row) {
            int byDefault = 0;
            if (isDigitHere()) {
                if (!readNumber()) {
                    return false;
                }
                byDefault = number;
            }
            beginRow(row, byDefault);
            return takeSign(':') && readEntries(row, byDefault);
        }

        private boolean readEntries(int row, int byDefault) {
            if (takeSign(';')) {
                return true;
            }
            int before = -1;
            // One turn more than there are columns: no column is left for the last turn, so that it fails.
            for (int turn = 0; turn <= COLUMNS; turn++) {
                if (!readNumber() || !allowNumber(isColumn(number) && number > before)) {
                    return false;
                }
                int column = number;
                if (!takeSign('=') || !readNumber() || !allowNumber(number != byDefault)) {
                    return false;
                }
                putAt(values, row * COLUMNS + column, number);
                if (takeSign(';')) {
                    return true;
                }
                if (!takeSign(',')) {
                    return false;
                }
                before = column;
            }
            return false;
        }

        /** A number that is not allowed fails at its first digit, but only once it has ended. */
        private boolean allowNumber(boolean allowed) {
            if (!allowed) {
                place = numberPlace;
            }
            return allowed;
        }

        private boolean readNumber() {
            skipSpaces();
            if (!isDigitHere()) {
                return false;
            }
            numberPlace = place;
            number = takeDigit();
            if (number != 0 && isDigitHere()) {
                number = number * 10 + takeDigit();
            }
            return !isDigitHere();
        }

        private int takeDigit() {
            int digit = signHere() - '0';
            place++;
            return digit;
        }

        private boolean takeSign(char sign) {
            skipSpaces();
            if (signHere() != sign) {
                return false;
            }
            place++;
            return true;
        }

        private void skipSpaces() {
            while (place < length && signHere() == ' ') {
                place++;
            }
        }

        private boolean isDigitHere() {
            return signHere() >= '0' && signHere() <= '9';
        }

        /** Behind the end it is 0, which no character of a text is. */
        private char signHere() {
            return place >= 0 && place < length ? signs[place] : 0;
        }
    }
}
