import java.util.function.Consumer;
import java.util.function.ToIntFunction;

/** The sentences of the document's terms that name a boundary case: each test bears the sentence as its name. */
public final class BoundaryTests extends TableTests {
    public static void main(String[] args) {
        BoundaryTests tests = new BoundaryTests();
        tests.table();
        tests.pushedRows();
        tests.formsStay();
        tests.formsChange();
        tests.pushAnew();
        tests.endAndWaste();
        tests.history();
        tests.undoRestoresEachAction();
        tests.errors();
        tests.whatCouldBe();
        tests.callsOfAnObject();
        tests.checks.end();
    }

    // ---- Table

    private void table() {
        rowsAreAtMost24();
        rowsThatAreGone();
        columnsAre16();
        valuesAre0To99();
        entriesAreNoDefaults();
        weights();
    }

    /** All calls that take a row; the row's default is 3, and it has no entries. */
    private void rowAnswers(int row, boolean isThere) {
        int error = isThere ? 3 : INVALID;
        due("get(" + row + ", 0)", x.get(row, 0), error);
        due("row(" + row + ", 0)", x.row(row, 0), error);
        due("set(" + row + ", 0, 3)", x.set(row, 0, 3), error);
        due("slim(" + row + ")", x.slim(row), error);
        due("setDefault(" + row + ", 3)", x.setDefault(row, 3), isThere ? 0 : INVALID);
        due("like(" + row + ")", x.like(row), isThere ? row == 0 ? 1 : 0 : INVALID);
    }

    private void rowsAreAtMost24() {
        begin("Table: at most 24 rows, numbered from 0");
        addRows(2, 3);
        rowAnswers(-1, false);
        rowAnswers(0, true);
        rowAnswers(1, true);
        rowAnswers(2, false);
        rowAnswers(23, false);
        for (int row = 2; row < 24; row++) {
            due("add(3)", x.add(3), row);
        }
        due("add(3) of a 25th", x.add(3), FULL);
        due("count(0)", x.count(0), 24);
        rowAnswers(23, true);
        for (int row : new int[] {-1, 24, 25, MIN, MAX}) {
            rowAnswers(row, false);
        }
    }

    private void rowsThatAreGone() {
        begin("Table: a row that is removed or undone does not exist");
        addRows(24, 3);
        due("removeLast()", x.removeLast(), 23);
        rowAnswers(23, false);
        rowAnswers(22, true);
        begin("Table: a row that is undone does not exist");
        addRows(2, 3);
        x.undo();
        rowAnswers(1, false);
        due("like(0)", x.like(0), NONE);
        begin("Table: a row in the place of one that is gone has nothing of it");
        x.add(3);
        setAll(0, 0, 1, 15, 2);
        x.removeLast();
        due("add(4)", x.add(4), 0);
        due("columns", x.row(0, 4), 0);
        due("form", x.row(0, 2), NONE);
        due("get(0, 0)", x.get(0, 0), 4);
        due("get(0, 15)", x.get(0, 15), 4);
    }

    private void columnsAre16() {
        begin("Table: 16 columns, numbered from 0");
        addRows(3, 3);
        due("set(1, 0, 1)", x.set(1, 0, 1), 3);
        due("set(1, 15, 2)", x.set(1, 15, 2), 3);
        for (int column : new int[] {-1, 16, 17, MIN, MAX}) {
            due("set(1, " + column + ", 5)", x.set(1, column, 5), INVALID);
            due("get(1, " + column + ")", x.get(1, column), INVALID);
        }
        due("columns", x.row(1, 4), 0x8001);
        due("get(1, 0)", x.get(1, 0), 1);
        due("get(1, 15)", x.get(1, 15), 2);
        for (int column = 0; column < 16; column++) {
            due("the row before", x.get(0, column), 3);
            due("the row behind", x.get(2, column), 3);
        }
    }

    private void valuesAre0To99() {
        begin("Table: a default of 0 to 99");
        due("add(0)", x.add(0), 0);
        due("add(99)", x.add(99), 1);
        due("setDefault(0, 99)", x.setDefault(0, 99), 0);
        due("setDefault(1, 0)", x.setDefault(1, 0), 0);
        due("row(0, 0)", x.row(0, 0), 99);
        due("row(1, 0)", x.row(1, 0), 0);
        begin("Table: an own value of 0 to 99");
        x.add(50);
        due("set(0, 0, 0)", x.set(0, 0, 0), 50);
        due("set(0, 1, 99)", x.set(0, 1, 99), 50);
        due("get(0, 0)", x.get(0, 0), 0);
        due("get(0, 1)", x.get(0, 1), 99);
        for (int wrong : new int[] {-1, 100, MIN, MAX}) {
            due("add(" + wrong + ")", x.add(wrong), INVALID);
            due("setDefault(0, " + wrong + ")", x.setDefault(0, wrong), INVALID);
            due("set(0, 0, " + wrong + ")", x.set(0, 0, wrong), INVALID);
        }
        due("row(0, 0)", x.row(0, 0), 50);
        due("count(0)", x.count(0), 1);
    }

    private void entriesAreNoDefaults() {
        begin("Table: an own value that is not the default of the row");
        addRows(2, 0);
        x.setDefault(1, 7);
        due("set to the default", x.set(0, 4, 0), 0);
        due("weight", x.row(0, 1), 0);
        x.set(0, 4, 7);
        due("another row's default is an entry", x.row(0, 4), 16);
        due("a value that is the default is none", x.row(1, 4), 0);
        due("forms", x.count(1), 1);
        due("set back to the default", x.set(0, 4, 0), 7);
        due("columns", x.row(0, 4), 0);
        due("forms", x.count(1), 0);
    }

    private void weights() {
        begin("Table: the weight is the number of entries");
        x.add(0);
        due("without entries", x.row(0, 1), 0);
        for (int column = 0; column < 16; column++) {
            x.set(0, column, 1);
            due("weight", x.row(0, 1), column + 1);
            due("weight of the form", x.form(0, 2), column + 1);
            due("sum of the weights", x.count(2), column + 1);
            due("cells", x.count(3), column + 1);
            due("columns", x.row(0, 4), (2 << column) - 1);
        }
        due("form(0, 0)", x.form(0, 0), 0);
        due("setDefault to the value of all entries", x.setDefault(0, 1), 0);
        due("weight", x.row(0, 1), 0);
        due("cells", x.count(3), 0);
        begin("Table: the weight of a form at a shift");
        addRows(2, 0);
        setAll(0, 0, 1);
        for (int column = 0; column < 16; column++) {
            x.set(1, column, 2);
        }
        due("shift", x.form(1, 0), 1);
        due("weight", x.form(1, 2), 16);
        due("last cell", x.cell(16, 0), 2);
    }

    // ---- Pushed rows

    private void pushedRows() {
        storeOf800Cells();
        emptyCells();
        alikeRows();
        rowsThatAreNotAlike();
        rowsWithoutEntries();
        numbersOfForms();
        formsFit();
        lookUps();
    }

    private void storeOf800Cells() {
        begin("Pushed rows: a row of 800 cells, numbered from 0");
        for (int what = 0; what <= 1; what++) {
            due("cell(0, " + what + ")", x.cell(0, what), NONE);
            due("cell(799, " + what + ")", x.cell(799, what), NONE);
            for (int cell : new int[] {-1, 800, MIN, MAX}) {
                due("cell(" + cell + ", " + what + ")", x.cell(cell, what), INVALID);
            }
        }
    }

    private void emptyCells() {
        begin("Pushed rows: a cell is empty, or has a value and a mark");
        x.add(5);
        due("empty, value", x.cell(0, 0), NONE);
        due("empty, mark", x.cell(0, 1), NONE);
        x.set(0, 0, 0);
        due("value 0", x.cell(0, 0), 0);
        due("mark 0", x.cell(0, 1), 0);
        due("filled cells", x.count(3), 1);
        due("end", x.count(4), 1);
        due("fit behind value 0 and mark 0", x.fit(1), 1);
        due("the next one", x.cell(1, 1), NONE);
        x.set(0, 0, 5);
        due("value, emptied", x.cell(0, 0), NONE);
        due("mark, emptied", x.cell(0, 1), NONE);
    }

    private void alikeRows() {
        begin("Pushed rows: rows with the same entries are alike, whatever their defaults are");
        for (int row = 0; row < 24; row++) {
            x.add(row * 4);
            x.set(row, 3, 99);
            x.set(row, 9, 1);
            due("form", x.row(row, 2), 0);
        }
        due("sharers", x.form(0, 1), 24);
        due("weight of the form", x.form(0, 2), 2);
        due("forms", x.count(1), 1);
        due("weights", x.count(2), 48);
        due("cells", x.count(3), 2);
        due("the default of a row that shares", x.get(23, 4), 92);
        due("the value of a row that shares", x.get(23, 3), 99);
        due("push()", x.push(), 10);
        due("sharers, pushed anew", x.form(0, 1), 24);
    }

    private void rowsThatAreNotAlike() {
        begin("Pushed rows: the same columns with the same values");
        addRows(6, 0);
        setAll(0, 3, 7);
        setAll(1, 3, 8);
        setAll(2, 4, 7);
        setAll(3, 3, 7, 15, 7);
        setAll(4, 0, 7, 3, 7);
        setAll(5, 3, 8, 4, 7);
        for (int row = 0; row < 6; row++) {
            due("form of row " + row, x.row(row, 2), row);
        }
        due("forms", x.count(1), 6);
        x.push();
        due("forms, pushed anew", x.count(1), 6);
        begin("Pushed rows: columns that are no entries do not count, though their values are the same");
        x.add(7);
        x.add(0);
        setAll(0, 0, 1);
        setAll(1, 0, 1, 3, 7);
        due("form", x.row(1, 2), 1);
        due("value of both", x.get(0, 3) * 100 + x.get(1, 3), 707);
    }

    private void rowsWithoutEntries() {
        begin("Pushed rows: a row without entries has no form");
        addRows(3, 4);
        setAll(1, 0, 1, 5, 1);
        for (int row = 0; row <= 2; row += 2) {
            due("form", x.row(row, 2), NONE);
            due("shift", x.row(row, 3), NONE);
        }
        due("forms", x.count(1), 1);
        due("sharers", x.form(0, 1), 1);
        due("look-ups of rows without a form are not refused", x.count(6), 0);
        due("a row without a form, over a filled cell", x.get(0, 0), 4);
        due("push()", x.push(), 6);
        due("form, pushed anew", x.row(0, 2), NONE);
        due("forms, pushed anew", x.count(1), 1);
        setAll(1, 0, 4, 5, 4);
        due("form of the last entry that goes", x.row(1, 2), NONE);
        due("shift", x.row(1, 3), NONE);
        for (int what = 0; what <= 2; what++) {
            due("form(0, " + what + ")", x.form(0, what), NONE);
        }
        due("forms", x.count(1), 0);
    }

    private void numbersOfForms() {
        begin("Pushed rows: forms are numbered from 0 in the order in which they are pushed");
        addRows(24, 0);
        for (int row = 23; row >= 0; row--) {
            x.set(row, row % 16, 1 + row);
            due("form", x.row(row, 2), 23 - row);
        }
        due("forms", x.count(1), 24);
        due("the last form", x.form(23, 1), 1);
        due("beside it", x.form(24, 1), INVALID);
        due("all other numbers are taken", x.form(0, 2), 1);
        begin("Pushed rows: a form has a shift from 0 on");
        addRows(24, 0);
        for (int row = 0; row < 24; row++) {
            for (int column = 0; column < 16; column++) {
                x.set(row, column, 1 + row);
            }
        }
        due("push()", x.push(), 384);
        for (int row = 0; row < 24; row++) {
            due("shift of row " + row, x.row(row, 3), 16 * row);
        }
        due("waste of a store without holes", x.count(5), 0);
        due("mark of the last cell", x.cell(383, 1), 23);
        due("behind it", x.cell(384, 1), NONE);
    }

    private void formsFit() {
        begin("Pushed rows: a form fits at a shift if all these cells are empty");
        x.add(0);
        setAll(0, 0, 1, 15, 1);
        due("{0}, cell 0 is not empty", x.fit(1), 1);
        due("{1} in the hole", x.fit(2), 0);
        due("{14}, the last cell of the hole", x.fit(1 << 14), 0);
        due("{15}, cell 15 is not empty", x.fit(1 << 15), 1);
        due("{1 .. 14}, all of the hole", x.fit(0x7ffe), 0);
        due("{0 .. 13}, all of the hole", x.fit(0x3fff), 1);
        due("{0 .. 14}, longer than the hole", x.fit(0x7fff), 16);
        due("{1 .. 15}, longer than the hole", x.fit(0xfffe), 15);
        due("{0, 15} once more", x.fit(0x8001), 1);
        due("{0, 1}", x.fit(3), 1);
        due("{0 .. 15}", x.fit(0xffff), 16);
    }

    private void lookUps() {
        begin("Pushed rows: a look-up is done by one addition");
        addRows(4, 0);
        x.setDefault(2, 50);
        x.setDefault(3, 60);
        setAll(0, 0, 1);
        setAll(1, 0, 9, 2, 0, 3, 8);
        setAll(2, 0, 1);
        due("its own mark", x.get(0, 0), 1);
        due("its own mark, shared", x.get(2, 0), 1);
        due("the stranger is refused", x.get(0, 1), 0);
        due("the stranger is refused by a row that shares", x.get(2, 1), 50);
        due("an empty cell", x.get(2, 2), 50);
        due("a row without a form", x.get(3, 0), 60);
        due("a value that is the default is no cell", x.row(1, 4), 9);
        due("a hole in its own form", x.get(1, 2), 0);
        due("refused: cells 1 and 4 for two rows", x.count(6), 4);
    }

    // ---- Keeping it pushed

    /** A row {0} at shift 1, and an empty cell 0 in front of it: would it be pushed again, it would move. */
    private void gapInFront() {
        addRows(3, 0);
        setAll(0, 0, 1);
        setAll(1, 0, 2);
        setAll(0, 0, 0);
    }

    private void staysInPlace(String what) {
        due("form after " + what, x.row(1, 2), 1);
        due("shift after " + what, x.row(1, 3), 1);
        due("cell 0 after " + what, x.cell(0, 1), NONE);
    }

    private void formsStay() {
        begin("Keeping it pushed: otherwise its form stays as it is");
        gapInFront();
        staysInPlace("the change of another row");
        x.set(1, 0, 2);
        staysInPlace("set of an entry to its value");
        x.set(1, 5, 0);
        staysInPlace("set of no entry to the default");
        x.slim(1);
        staysInPlace("slim that changes nothing");
        x.setDefault(1, 0);
        staysInPlace("setDefault of the same one");
        x.setDefault(1, 99);
        staysInPlace("setDefault of another one, the entries stay");
        x.add(0);
        staysInPlace("add");
        x.removeLast();
        staysInPlace("removeLast of another row");
        x.set(2, 0, 2);
        staysInPlace("another row that shares");
        x.set(1, 0, 2);
        staysInPlace("set of a shared entry to its value");
        due("sharers", x.form(1, 1), 2);
        x.set(2, 0, 0);
        staysInPlace("another row that shares no more");
        x.set(1, 0, 3);
        due("form once its entries change", x.row(1, 2), 0);
        due("shift once its entries change", x.row(1, 3), 0);

        begin("Keeping it pushed: setDefault changes the entries, so its form does not stay");
        gapInFront();
        setAll(1, 7, 5);
        due("shift before", x.row(1, 3), 0);
        setAll(2, 0, 9);
        setAll(1, 7, 0);
        due("shift of {0}", x.row(1, 3), 0);
    }

    private void formsChange() {
        takenOutFirst();
        sharedFormsAreNotTakenOut();
        sameEntriesAreLookedFor();
        smallestShiftAndNumber();
    }

    private void takenOutFirst() {
        begin("Keeping it pushed: a form that no row has any more is taken out first");
        x.add(0);
        setAll(0, 0, 1);
        x.set(0, 1, 1);
        due("its own cells are empty by then", x.row(0, 3), 0);
        due("its own number is free by then", x.row(0, 2), 0);
        x.set(0, 0, 2);
        due("shift with another value", x.row(0, 3), 0);
        due("value", x.cell(0, 0), 2);
        x.set(0, 0, 0);
        due("shift of the rest", x.row(0, 3), 0);
        due("its cell becomes empty", x.cell(0, 0), NONE);
        due("the mark, too", x.cell(0, 1), NONE);
        due("cells", x.count(3), 1);
        due("forms", x.count(1), 1);

        begin("Keeping it pushed: cells of others stay when a form is taken out");
        addRows(2, 0);
        setAll(0, 0, 1, 2, 1);
        setAll(1, 0, 2, 2, 2);
        x.removeLast();
        due("cells", x.count(3), 2);
        x.undo();
        x.set(0, 0, 0);
        x.set(0, 2, 0);
        due("marks", x.cell(1, 1) * 10 + x.cell(3, 1), 11);
        due("cells of the first one", x.cell(0, 1) + x.cell(2, 1), NONE + NONE);
    }

    private void sharedFormsAreNotTakenOut() {
        begin("Keeping it pushed: a form that another row still has is not taken out");
        addRows(3, 0);
        setAll(0, 0, 1);
        setAll(1, 0, 1);
        setAll(2, 0, 1);
        x.set(1, 1, 1);
        due("sharers", x.form(0, 1), 2);
        due("another form", x.row(1, 2), 1);
        due("shift behind the shared form", x.row(1, 3), 1);
        x.removeLast();
        due("sharers without the last row", x.form(0, 1), 1);
        due("cell", x.cell(0, 1), 0);
        x.set(0, 0, 0);
        due("the last one that had it", x.form(0, 1), NONE);
        due("cell", x.cell(0, 1), NONE);
    }

    private void sameEntriesAreLookedFor() {
        begin("Keeping it pushed: it is looked for a form of the same entries");
        gapInFront();
        x.set(2, 0, 2);
        due("shares, though cell 0 is free", x.row(2, 3), 1);
        due("form", x.row(2, 2), 1);
        x.set(1, 0, 4);
        due("the one that leaves takes cell 0", x.row(1, 3), 0);
        x.set(1, 0, 2);
        due("comes back to the form of the other", x.row(1, 2), 1);
        due("its own form is gone", x.form(0, 0), NONE);
        due("forms", x.count(1), 1);

        begin("Keeping it pushed: setDefault and slim look for a form of the same entries, too");
        addRows(3, 0);
        setAll(0, 15, 1);
        setAll(1, 0, 5, 15, 1);
        due("setDefault(1, 5)", x.setDefault(1, 5), 1);
        due("form after setDefault", x.row(1, 2), 0);
        for (int column = 0; column < 15; column++) {
            x.set(2, column, 6);
        }
        x.set(2, 15, 1);
        due("slim(2)", x.slim(2), 6);
        due("form after slim", x.row(2, 2), 0);
        due("sharers", x.form(0, 1), 3);
        due("forms", x.count(1), 1);
        due("end", x.count(4), 16);
    }

    private void smallestShiftAndNumber() {
        begin("Keeping it pushed: the smallest number that no form has");
        addRows(8, 0);
        for (int row = 0; row < 5; row++) {
            x.set(row, 0, 1 + row);
        }
        x.set(3, 0, 0);
        x.set(1, 0, 0);
        int[] numbers = {1, 3, 5};
        for (int row = 5; row < 8; row++) {
            x.set(row, 0, 11 + row);
            due("number", x.row(row, 2), numbers[row - 5]);
            due("the smallest shift at which it fits", x.row(row, 3), numbers[row - 5]);
        }
        begin("Keeping it pushed: a number and a shift are free one without the other");
        addRows(3, 0);
        setAll(0, 15, 1);
        setAll(1, 0, 1);
        x.set(0, 15, 0);
        due("number 0 stays free", x.form(0, 0), NONE);
        x.set(2, 0, 2);
        due("number", x.row(2, 2), 0);
        due("shift behind cell 0", x.row(2, 3), 1);
    }

    private void pushAnew() {
        begin("Keeping it pushed: all forms are taken out");
        gapInFront();
        due("push()", x.push(), 1);
        due("numbers begin with 0", x.row(1, 2), 0);
        due("shifts begin with 0", x.row(1, 3), 0);
        due("the old cell is empty", x.cell(1, 1), NONE);
        due("the old number is free", x.form(1, 0), NONE);

        begin("Keeping it pushed: by their weights, the greatest first");
        addRows(4, 0);
        setAll(0, 0, 1);
        for (int column = 0; column < 15; column++) {
            x.set(1, column, 2);
            x.set(2, column, 3);
        }
        x.set(2, 15, 3);
        due("push()", x.push(), 32);
        due("weight 16", x.row(2, 2) * 100 + x.row(2, 3), 0);
        due("weight 15", x.row(1, 2) * 100 + x.row(1, 3), 116);
        due("weight 1", x.row(0, 2) * 100 + x.row(0, 3), 231);
        due("weight 0", x.row(3, 2), NONE);

        begin("Keeping it pushed: of the same weight the one with the smallest number first");
        addRows(3, 0);
        setAll(2, 0, 1);
        setAll(1, 0, 2);
        setAll(0, 0, 3);
        due("number of row 0 before", x.row(0, 2), 2);
        due("push()", x.push(), 3);
        for (int row = 0; row < 3; row++) {
            due("number of row " + row, x.row(row, 2), row);
        }

        begin("Keeping it pushed: each row shares a form of the same entries, if there is one by then");
        addRows(3, 0);
        setAll(0, 5, 1);
        setAll(1, 4, 1);
        setAll(2, 5, 1);
        due("push()", x.push(), 6);
        due("sharers", x.form(0, 1), 2);
        due("form of the last row", x.row(2, 2), 0);
        due("forms", x.count(1), 2);
    }

    private void endAndWaste() {
        begin("Keeping it pushed: the end is 0 if all cells are empty");
        due("end of a new object", x.count(4), 0);
        due("waste of a new object", x.count(5), 0);
        due("push() of a new object", x.push(), 0);
        x.add(0);
        x.set(0, 15, 1);
        x.set(0, 15, 0);
        due("end when all are empty again", x.count(4), 0);
        due("waste when all are empty again", x.count(5), 0);
        begin("Keeping it pushed: the end is 1 more than the greatest number of a cell that is not empty");
        x.add(0);
        x.set(0, 0, 1);
        due("end of cell 0", x.count(4), 1);
        due("waste of cell 0", x.count(5), 0);
        x.set(0, 15, 1);
        due("end of cells 0 and 15", x.count(4), 16);
        due("waste of cells 0 and 15", x.count(5), 14);
        x.set(0, 0, 0);
        due("end of cell 15", x.count(4), 16);
        due("waste of cell 15: the cells in front of it", x.count(5), 15);
        due("filled cells", x.count(3), 1);
    }

    // ---- Undo

    private void history() {
        begin("Undo: at most 5 states");
        due("undo() of a new object", x.undo(), ILLEGAL);
        for (int action = 1; action <= 12; action++) {
            x.add(action);
            due("history", x.count(7), Math.min(action, 5));
        }
        for (int left = 4; left >= 0; left--) {
            due("undo()", x.undo(), left);
            due("history", x.count(7), left);
            due("rows", x.count(0), 8 + left - 1);
        }
        due("undo() of an empty history", x.undo(), ILLEGAL);
        due("the oldest states are dropped", x.count(0), 7);
        begin("Undo: it is not recorded itself");
        addRows(3, 0);
        x.undo();
        due("undo()", x.undo(), 1);
        x.add(9);
        due("history", x.count(7), 2);
        due("undo() of the new action", x.undo(), 1);
        due("rows", x.count(0), 1);
        due("undo()", x.undo(), 0);
        due("rows", x.count(0), 0);
        recordedThoughNothingChanges();
        textIsNoPartOfAState();
    }

    private void recordedThoughNothingChanges() {
        begin("Undo: also if nothing changes by it");
        due("push() of nothing", x.push(), 0);
        due("history after push", x.count(7), 1);
        due("read() of no rows", x.read(), 0);
        due("history after read", x.count(7), 2);
        x.add(1);
        due("undo()", x.undo(), 2);
        due("undo() of read", x.undo(), 1);
        due("undo() of push", x.undo(), 0);
        x.add(1);
        x.set(0, 0, 1);
        due("history after set", x.count(7), 2);
        x.setDefault(0, 1);
        due("history after setDefault", x.count(7), 3);
        x.slim(0);
        due("history after slim", x.count(7), 4);
        x.push();
        due("history after push", x.count(7), 5);
        x.set(0, 0, 1);
        for (int left = 4; left >= 0; left--) {
            due("undo()", x.undo(), left);
            due("rows", x.count(0), 1);
        }
        due("the add was the oldest one, and dropped", x.undo(), ILLEGAL);
    }

    private void textIsNoPartOfAState() {
        begin("Undo: a state is everything but the text and the history");
        x.add(1);
        appendAll(x, "5:1=2");
        due("undo()", x.undo(), 0);
        due("length", x.count(8), 5);
        x.append(';');
        due("the text was kept", x.read(), 1);
        due("its default", x.row(0, 0), 5);
        appendAll(x, "7");
        due("undo() of read", x.undo(), 0);
        due("the text that is written since", x.count(8), 1);
        x.clearText();
        x.append(':');
        due("texts are no actions", x.count(7), 0);
        due("undo() of texts", x.undo(), ILLEGAL);
    }

    /** Rows that share, a gap, and numbers out of order, by four calls that the history still holds at the end. */
    private static void mixedTable(PushedTables tables) {
        appendAll(tables, ":0=1;:0=2;:3=1,4=1;9:0=2;:0=9,15=9;:0=1,5=2;");
        tables.read();
        tables.set(0, 0, 0);
        tables.set(1, 0, 0);
        tables.add(6);
    }

    private void undone(String action, ToIntFunction<PushedTables> call, int answer) {
        Consumer<PushedTables> before = BoundaryTests::mixedTable;
        PushedTables tables = new PushedTables();
        before.accept(tables);
        due(action, call.applyAsInt(tables), answer);
        Consumer<PushedTables> thereAndBack = before.andThen(then -> {
            call.applyAsInt(then);
            then.undo();
        });
        sameObjects(action + " and undo()", thereAndBack, before);
    }

    private void undoRestoresEachAction() {
        begin("Undo: undo() removes the latest state from the history and restores it");
        undone("add(3)", x -> x.add(3), 7);
        undone("set(4, 0, 0)", x -> x.set(4, 0, 0), 9);
        undone("set(0, 0, 2), which shares", x -> x.set(0, 0, 2), 0);
        undone("set(3, 0, 9), which frees a form", x -> x.set(3, 0, 9), 2);
        undone("set(3, 1, 1)", x -> x.set(3, 1, 1), 9);
        undone("setDefault(2, 1)", x -> x.setDefault(2, 1), 0);
        undone("setDefault(4, 50)", x -> x.setDefault(4, 50), 2);
        undone("removeLast()", x -> x.removeLast(), 6);
        undone("slim(2)", x -> x.slim(2), 0);
        undone("push()", x -> x.push(), 16);
        undone("read()", x -> x.read(), 0);
    }

    // ---- Errors

    /** Each call that returns an error code, for any table with 24 rows or less that has mixedTable's rows. */
    private static void callsThatFail(PushedTables tables) {
        int rows = tables.count(0);
        tables.add(-1);
        tables.add(100);
        tables.set(rows, 0, 1);
        tables.set(0, 16, 1);
        tables.set(0, 0, 100);
        tables.set(0, -1, 5);
        tables.set(-1, 0, 5);
        tables.setDefault(rows, 1);
        tables.setDefault(0, 100);
        tables.setDefault(0, -1);
        tables.slim(rows);
        tables.slim(-1);
        tables.append(0);
        tables.append(256);
        tables.append(-1);
        tables.get(rows, 0);
        tables.count(9);
        tables.row(rows, 0);
        tables.form(24, 0);
        tables.cell(800, 0);
        tables.fit(0);
        tables.fit(65536);
        tables.endBy(2);
        tables.endBy(-1);
        tables.like(rows);
        tables.like(-1);
    }

    private void errors() {
        begin("Errors: a call that returns an error code changes nothing");
        Consumer<PushedTables> fails = BoundaryTests::callsThatFail;
        Consumer<PushedTables> mixed = BoundaryTests::mixedTable;
        Consumer<PushedTables> withText = mixed.andThen(tables -> appendAll(tables, "5:1=2;6:"));
        sameObjects("arguments out of range", withText.andThen(fails), withText);
        sameObjects("a text that fails", withText.andThen(PushedTables::read), withText);
        Consumer<PushedTables> full = mixed.andThen(tables -> addRows(tables, 17, 1));
        sameObjects("add to 24 rows", full.andThen(tables -> tables.add(1)), full);
        Consumer<PushedTables> tooMany = full.andThen(tables -> appendAll(tables, ":1=2;"));
        sameObjects("a row too many", tooMany.andThen(PushedTables::read), tooMany);
        Consumer<PushedTables> longText = mixed.andThen(tables -> {
            appendAll(tables, ":0=3;");
            appendAll(tables, " ".repeat(95));
        });
        sameObjects("append to 100 characters", longText.andThen(tables -> tables.append('x')), longText);
        Consumer<PushedTables> nothing = tables -> { };
        sameObjects("removeLast and undo of a new object", tables -> {
            tables.removeLast();
            tables.undo();
        }, nothing);
        severalErrors();
        noneIsNoError();
    }

    private void severalErrors() {
        begin("Errors: the one that its description lists first");
        addRows(24, 0);
        due("add(100) to 24 rows", x.add(100), INVALID);
        due("add(-1) to 24 rows", x.add(-1), INVALID);
        due("add(99) to 24 rows", x.add(99), FULL);
        for (int i = 0; i < 100; i++) {
            x.append(' ');
        }
        due("append(0) to 100 characters", x.append(0), INVALID);
        due("append(256) to 100 characters", x.append(256), INVALID);
        due("append(255) to 100 characters", x.append(255), FULL);
    }

    private void noneIsNoError() {
        begin("Errors: NONE is returned only if no error condition applies");
        x.add(0);
        due("row(0, 2) without a form", x.row(0, 2), NONE);
        due("row(1, 2)", x.row(1, 2), INVALID);
        due("row(0, 5)", x.row(0, 5), INVALID);
        due("row(0, -1)", x.row(0, -1), INVALID);
        due("form(23, 2) of no form", x.form(23, 2), NONE);
        due("form(23, 3) of no form", x.form(23, 3), INVALID);
        due("form(23, -1) of no form", x.form(23, -1), INVALID);
        due("form(24, 2)", x.form(24, 2), INVALID);
        due("cell(7, 1) of an empty cell", x.cell(7, 1), NONE);
        due("cell(7, 2) of an empty cell", x.cell(7, 2), INVALID);
        due("cell(7, -1) of an empty cell", x.cell(7, -1), INVALID);
        due("like(0) of the only row", x.like(0), NONE);
        due("like(1)", x.like(1), INVALID);
    }

    // ---- what could be

    /** Calls that only look, with answers of all kinds. */
    private static void callsThatLook(PushedTables tables) {
        for (int what = 0; what <= 8; what++) {
            tables.count(what);
        }
        for (int row = 0; row < tables.count(0); row++) {
            tables.get(row, row % 16);
            tables.row(row, row % 5);
            tables.form(row, row % 3);
            tables.cell(row, row % 2);
            tables.fit(1 + row * 999);
            tables.like(row);
        }
        tables.slimmer();
        tables.endBy(0);
        tables.endBy(1);
    }

    private void whatCouldBe() {
        begin("The interface: what could be, which changes nothing");
        Consumer<PushedTables> mixed = BoundaryTests::mixedTable;
        Consumer<PushedTables> withText = mixed.andThen(tables -> appendAll(tables, ":1=2;"));
        sameObjects("looks", withText.andThen(BoundaryTests::callsThatLook), withText);
        sameObjects("endBy(0)", withText.andThen(tables -> tables.endBy(0)), withText);
        sameObjects("endBy(1)", withText.andThen(tables -> tables.endBy(1)), withText);
        Consumer<PushedTables> nothing = tables -> { };
        sameObjects("looks at a new object", BoundaryTests::callsThatLook, nothing);
    }

    // ---- What it is

    private void callsOfAnObject() {
        begin("What it is: at most 512 calls after it has been made");
        x.add(0);
        for (int call = 1; call < 510; call++) {
            x.set(0, call % 16, 1 + call % 99);
        }
        due("the 511th call", x.set(0, 13, 99), 1 + 509 % 99);
        due("the 512th call", x.get(0, 13), 99);
        begin("A new object: it has nothing of an object before it");
        PushedTables other = new PushedTables();
        lightBeforeHeavy(other);
        appendAll(other, ":");
        other.endBy(0);
        sameStates("beside another object", tables -> other.push(), tables -> { });
        due("count(7)", x.count(7), 0);
        due("count(8)", x.count(8), 0);
    }
}
