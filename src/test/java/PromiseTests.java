/** The promises one by one, with answers that were derived from the document by hand. */
public final class PromiseTests extends TableTests {
    public static void main(String[] args) {
        PromiseTests tests = new PromiseTests();
        tests.newObject();
        tests.add();
        tests.set();
        tests.setKeepsItPushed();
        tests.setDefault();
        tests.removeLast();
        tests.slim();
        tests.slimOfFourValues();
        tests.push();
        tests.undo();
        tests.append();
        tests.clearText();
        tests.read();
        tests.readFails();
        tests.readIsFull();
        tests.get();
        tests.count();
        tests.row();
        tests.form();
        tests.cell();
        tests.fit();
        tests.endBy();
        tests.slimmer();
        tests.like();
        tests.fullTable();
        tests.checks.end();
    }

    // ---- promises 1 to 8: rows

    private void newObject() {
        begin("1 a new object");
        for (int what = 0; what <= 8; what++) {
            due("count(" + what + ")", x.count(what), 0);
        }
        due("row(0, 0)", x.row(0, 0), INVALID);
        for (int cell = 0; cell < 800; cell++) {
            if (cell % 100 == 0) {
                x = new PushedTables();
            }
            due("cell(" + cell + ", 0)", x.cell(cell, 0), NONE);
            due("cell(" + cell + ", 1)", x.cell(cell, 1), NONE);
        }
        for (int form = 0; form < 24; form++) {
            due("form(" + form + ", 0)", x.form(form, 0), NONE);
        }
        due("undo()", x.undo(), ILLEGAL);
        PushedTables other = new PushedTables();
        other.add(1);
        other.append('1');
        due("count(0) beside another object", x.count(0), 0);
        due("count(8) beside another object", x.count(8), 0);
        due("INVALID_ARGUMENT", INVALID, -1);
        due("ILLEGAL_STATE", ILLEGAL, -2);
        due("CAPACITY_EXCEEDED", FULL, -3);
        due("NONE", NONE, -9);
    }

    private void add() {
        begin("2 add");
        for (int wrong : new int[] {-1, 100, MIN, MAX}) {
            due("add(" + wrong + ")", x.add(wrong), INVALID);
        }
        due("history of errors", x.count(7), 0);
        due("add(99)", x.add(99), 0);
        due("add(0)", x.add(0), 1);
        due("history", x.count(7), 2);
        due("default", x.row(0, 0), 99);
        due("value", x.get(0, 15), 99);
        due("weight", x.row(0, 1), 0);
        due("form", x.row(0, 2), NONE);
        due("forms", x.count(1), 0);
        for (int row = 2; row < 24; row++) {
            due("add(7)", x.add(7), row);
        }
        due("add(7) of a 25th", x.add(7), FULL);
        due("add(100) of a 25th", x.add(100), INVALID);
        due("rows", x.count(0), 24);
        due("undo()", x.undo(), 4);
        due("rows then", x.count(0), 23);
        due("add(8)", x.add(8), 23);
        due("a row that is added again", x.get(23, 3), 8);
    }

    private void set() {
        begin("3 set");
        due("set without rows", x.set(0, 0, 0), INVALID);
        addRows(2, 5);
        int history = x.count(7);
        int[][] wrong = {{-1, 0, 0}, {2, 0, 0}, {0, -1, 0}, {0, 16, 0}, {0, 0, -1}, {0, 0, 100},
            {MIN, 0, 0}, {MAX, 0, 0}, {0, MIN, 0}, {0, MAX, 0}, {0, 0, MIN}, {0, 0, MAX}};
        for (int[] arguments : wrong) {
            due("set of wrong arguments", x.set(arguments[0], arguments[1], arguments[2]), INVALID);
        }
        due("history of errors", x.count(7), history);
        due("set(1, 15, 99)", x.set(1, 15, 99), 5);
        due("set(1, 15, 0)", x.set(1, 15, 0), 99);
        due("set(1, 15, 0) again", x.set(1, 15, 0), 0);
        due("history", x.count(7), history + 3);
        due("weight", x.row(1, 1), 1);
        due("value", x.get(1, 15), 0);
        due("the other row", x.get(0, 15), 5);
        due("set to the default", x.set(1, 15, 5), 0);
        due("weight then", x.row(1, 1), 0);
        due("form then", x.row(1, 2), NONE);
        due("cells then", x.count(3), 0);
        due("set of no entry to the default", x.set(1, 3, 5), 5);
        due("weight of it", x.row(1, 1), 0);
    }

    private void setKeepsItPushed() {
        begin("3 set, kept pushed");
        addRows(4, 0);
        setAll(0, 0, 1);
        setAll(1, 0, 2);
        setAll(2, 0, 3);
        due("third form", x.row(2, 2), 2);
        due("its shift", x.row(2, 3), 2);
        setAll(0, 0, 0);
        due("form 0 is free", x.form(0, 0), NONE);
        due("cell 0 is empty", x.cell(0, 1), NONE);
        setAll(1, 0, 2);
        due("shift of a row that does not change", x.row(1, 3), 1);
        setAll(1, 0, 4);
        due("shift of one that changes", x.row(1, 3), 0);
        due("its form is the smallest free one", x.row(1, 2), 0);
        setAll(3, 0, 3);
        due("an alike row shares", x.row(3, 2), 2);
        due("its sharers", x.form(2, 1), 2);
        setAll(2, 1, 3);
        due("a row that leaves a shared form", x.row(2, 2), 1);
        due("the form that is left stays", x.row(3, 3), 2);
        due("first fit of {0, 1}", x.row(2, 3), 3);
        setAll(3, 0, 0);
        due("the last one that leaves takes it out", x.cell(2, 0), NONE);

        begin("3 set, the own form is taken out first");
        addRows(1, 0);
        setAll(0, 0, 1, 1, 1, 2, 1);
        due("shift", x.row(0, 3), 0);
        due("form", x.row(0, 2), 0);
        due("end", x.count(4), 3);
        setAll(0, 0, 0);
        due("shift without column 0", x.row(0, 3), 0);
        due("end without column 0", x.count(4), 3);

        begin("3 set, into a hole");
        addRows(3, 0);
        setAll(0, 0, 1, 15, 1);
        setAll(1, 0, 2, 1, 2);
        due("{0, 1} in the hole", x.row(1, 3), 1);
        setAll(2, 3, 7);
        due("{3} at shift 0", x.row(2, 3), 0);
        due("form of {3}", x.row(2, 2), 2);
        due("its cell", x.cell(3, 0), 7);

        begin("3 set, other columns or values are other forms");
        addRows(3, 0);
        setAll(0, 2, 6);
        setAll(1, 2, 7);
        setAll(2, 3, 6);
        due("forms", x.count(1), 3);
    }

    private void setDefault() {
        begin("4 setDefault");
        due("setDefault without rows", x.setDefault(0, 0), INVALID);
        addRows(2, 5);
        setAll(0, 0, 7, 2, 8);
        setAll(1, 0, 6);
        int history = x.count(7);
        for (int[] arguments : new int[][] {{-1, 0}, {2, 0}, {0, -1}, {0, 100}, {MAX, 0}, {0, MIN}}) {
            due("setDefault of wrong arguments", x.setDefault(arguments[0], arguments[1]), INVALID);
        }
        due("history of errors", x.count(7), history);
        due("shift of row 1", x.row(1, 3), 1);
        due("setDefault(0, 8)", x.setDefault(0, 8), 1);
        due("default", x.row(0, 0), 8);
        due("columns", x.row(0, 4), 1);
        due("entry that stays", x.get(0, 0), 7);
        due("entry that is none", x.get(0, 2), 8);
        due("another cell", x.get(0, 3), 8);
        x.setDefault(1, 9);
        x.set(1, 0, 9);
        due("setDefault(1, 5) without entries", x.setDefault(1, 5), 0);
        due("the first cell", x.get(1, 0), 5);
        x.set(1, 0, 6);
        due("setDefault(0, 7)", x.setDefault(0, 7), 0);
        due("form without entries", x.row(0, 2), NONE);
        due("setDefault(1, 0)", x.setDefault(1, 0), 1);
        due("a form whose entries stay", x.row(1, 3), 1);
        due("number of a form whose entries stay", x.row(1, 2), 1);
        due("setDefault(1, 0) again", x.setDefault(1, 0), 1);
        due("history", x.count(7), 5);
        setAll(0, 0, 6);
        due("rows of other defaults share", x.row(0, 2), 1);
        due("sharers", x.form(1, 1), 2);

        begin("4 setDefault, into an alike row");
        addRows(2, 0);
        setAll(0, 0, 1);
        setAll(1, 0, 1, 1, 2);
        due("setDefault(1, 2)", x.setDefault(1, 2), 1);
        due("form", x.row(1, 2), 0);
        due("forms", x.count(1), 1);
        due("end", x.count(4), 1);
    }

    private void removeLast() {
        begin("5 removeLast");
        due("removeLast()", x.removeLast(), ILLEGAL);
        due("history of an error", x.count(7), 0);
        addRows(3, 0);
        setAll(0, 0, 1);
        setAll(1, 0, 1);
        setAll(2, 0, 2);
        due("removeLast()", x.removeLast(), 2);
        due("its form", x.form(1, 0), NONE);
        due("its cell", x.cell(1, 0), NONE);
        due("a shared form", x.form(0, 1), 2);
        due("removeLast()", x.removeLast(), 1);
        due("the form that is left", x.form(0, 1), 1);
        due("its cell", x.cell(0, 0), 1);
        due("removeLast()", x.removeLast(), 0);
        due("cells", x.count(3), 0);
        due("removeLast()", x.removeLast(), ILLEGAL);
        due("undo()", x.undo(), 4);
        due("cell again", x.cell(0, 0), 1);
        due("rows again", x.count(0), 1);
        due("undo()", x.undo(), 3);
        due("rows again", x.count(0), 2);
    }

    private void slim() {
        begin("6 slim");
        due("slim without rows", x.slim(0), INVALID);
        addRows(1, 9);
        due("slim(-1)", x.slim(-1), INVALID);
        due("slim(1)", x.slim(1), INVALID);
        due("history of errors", x.count(7), 1);
        due("slim of a row without entries", x.slim(0), 9);
        due("history", x.count(7), 2);
        for (int column = 0; column < 8; column++) {
            x.set(0, column, 3);
        }
        due("slim of a tie: the smallest", x.slim(0), 3);
        due("weight", x.row(0, 1), 8);
        due("columns", x.row(0, 4), 0xff00);
        due("value of an entry", x.get(0, 8), 9);
        due("value of the default", x.get(0, 7), 3);
        due("its cells", x.cell(8, 0), 9);
        due("an old cell", x.cell(7, 0), NONE);
        x.set(0, 0, 9);
        due("slim, 9 of 16", x.slim(0), 9);
        due("weight then", x.row(0, 1), 7);

        begin("6 slim, a form whose entries stay");
        addRows(2, 0);
        setAll(0, 0, 1);
        setAll(1, 0, 2);
        setAll(0, 0, 0);
        due("slim(1)", x.slim(1), 0);
        due("shift", x.row(1, 3), 1);

        begin("6 slim, all columns are entries");
        addRows(1, 0);
        for (int column = 0; column < 16; column++) {
            x.set(0, column, 20 - column % 3);
        }
        due("slim(0)", x.slim(0), 20);
        due("weight", x.row(0, 1), 10);

        begin("6 slim, a smaller value that is not so common");
        addRows(1, 9);
        setAll(0, 3, 1, 4, 1);
        due("slim(0)", x.slim(0), 9);
        setAll(0, 0, 2);
        due("slim(0)", x.slim(0), 9);
        for (int smallest = 0; smallest < 16; smallest++) {
            for (int column = 0; column < 16; column++) {
                x.set(0, column, 20 + (column + 16 - smallest) % 16);
            }
            due("slim(0), all values differ", x.slim(0), 20);
            due("weight, all values differ", x.row(0, 1), 15);
        }
    }

    private void slimOfFourValues() {
        begin("6 slim, the value that most cells have, in front of others that are no rare ones");
        addRows(1, 9);
        for (int column = 0; column < 12; column++) {
            x.set(0, column, column == 0 ? 5 : column <= 8 ? 7 : 3);
        }
        due("slimmer()", x.slimmer(), 4);
        due("slim(0)", x.slim(0), 7);
        due("weight", x.row(0, 1), 8);
        due("columns", x.row(0, 4), 0xfe01);
        due("slimmer() then", x.slimmer(), 0);
    }

    private void push() {
        begin("7 push");
        due("push() without rows", x.push(), 0);
        due("history", x.count(7), 1);
        lightBeforeHeavy();
        due("end before", x.count(4), 4);
        due("push()", x.push(), 3);
        due("the heavy row is form 0", x.row(1, 2), 0);
        due("its shift", x.row(1, 3), 0);
        due("the light row is form 1", x.row(0, 2), 1);
        due("its shift", x.row(0, 3), 1);
        due("cells", x.cell(0, 0) * 10000 + x.cell(1, 0) * 100 + x.cell(2, 0), 90108);
        due("push() again", x.push(), 3);

        begin("7 push, of the same weight the smallest number first");
        addRows(4, 0);
        setAll(3, 4, 1);
        setAll(2, 5, 2);
        setAll(1, 4, 1);
        due("push()", x.push(), 6);
        due("row 1", x.row(1, 2), 0);
        due("row 2", x.row(2, 2), 1);
        due("row 3 shares", x.row(3, 2), 0);
        due("row 0 has none", x.row(0, 2), NONE);
        due("forms", x.count(1), 2);
    }

    private void undo() {
        begin("8 undo");
        due("undo()", x.undo(), ILLEGAL);
        lightBeforeHeavy();
        due("history", x.count(7), 5);
        x.push();
        due("history of six", x.count(7), 5);
        due("undo of push", x.undo(), 4);
        due("cells as before", x.cell(3, 0), 8);
        due("end as before", x.count(4), 4);
        due("form as before", x.row(1, 2), 1);
        due("shift as before", x.form(1, 0), 1);
        due("undo of set", x.undo(), 3);
        due("row", x.row(1, 4), 1);
        due("undo of set", x.undo(), 2);
        due("undo of set", x.undo(), 1);
        due("cells", x.count(3), 0);
        due("rows", x.count(0), 2);
        due("undo of add", x.undo(), 0);
        due("rows", x.count(0), 1);
        due("undo() of what was dropped", x.undo(), ILLEGAL);
        due("rows", x.count(0), 1);

        begin("8 undo, what it keeps");
        x.add(3);
        x.append('7');
        due("undo()", x.undo(), 0);
        due("the text stays", x.count(8), 1);
        x.add(3);
        x.set(9, 9, 9);
        x.setDefault(9, 9);
        x.slim(9);
        x.add(-1);
        x.clearText();
        due("errors and texts record nothing", x.count(7), 1);
        x.undo();
        readsAs(":;", 1);
        due("undo of read", x.undo(), 0);
        due("rows", x.count(0), 0);
        due("the text is not restored", x.count(8), 0);
        x.add(1);
        x.slim(0);
        x.setDefault(0, 1);
        x.set(0, 0, 1);
        due("actions that change nothing are recorded", x.count(7), 4);

        begin("8 undo, of each action");
        addRows(2, 5);
        setAll(0, 3, 7);
        x.setDefault(0, 7);
        due("undo of setDefault", x.undo(), 3);
        due("default", x.row(0, 0), 5);
        due("value", x.get(0, 3), 7);
        due("form", x.row(0, 2), 0);
        for (int column = 0; column < 10; column++) {
            x.set(0, column, 7);
        }
        x.slim(0);
        due("undo of slim", x.undo(), 4);
        due("default", x.row(0, 0), 5);
        due("weight", x.row(0, 1), 10);
        x.removeLast();
        due("undo of removeLast", x.undo(), 4);
        due("value of a row again", x.get(1, 15), 5);
    }

    // ---- promises 9 to 11: texts

    private void append() {
        begin("9 append");
        for (int wrong : new int[] {0, -1, 256, MIN, MAX}) {
            due("append(" + wrong + ")", x.append(wrong), INVALID);
        }
        due("append(1)", x.append(1), 1);
        due("append(255)", x.append(255), 2);
        for (int length = 3; length <= 100; length++) {
            due("append(32)", x.append(32), length);
        }
        due("append of a 101st", x.append(32), FULL);
        due("append(0) of a 101st", x.append(0), INVALID);
        due("length", x.count(8), 100);
        due("history", x.count(7), 0);
    }

    private void clearText() {
        begin("10 clearText");
        due("clearText()", x.clearText(), 0);
        write("9:;9");
        due("clearText()", x.clearText(), 4);
        due("length", x.count(8), 0);
        due("history", x.count(7), 0);
        due("read()", x.read(), 0);
    }

    private void read() {
        begin("11 read");
        readsAs("", 0);
        due("history without rows", x.count(7), 1);
        readsAs("   ", 0);
        due("length", x.count(8), 0);
        readsAs("  10 : 0 = 1 , 9 = 2 , 15 = 0 ; : ; ", 2);
        due("default", x.row(0, 0), 10);
        due("columns", x.row(0, 4), 1 << 0 | 1 << 9 | 1 << 15);
        due("values", x.get(0, 0) * 10000 + x.get(0, 9) * 100 + x.get(0, 15), 10200);
        due("default that is missing", x.row(1, 0), 0);
        due("history", x.count(7), 3);
        readsAs("99:0=1,9=2,15=0;", 1);
        due("an alike row", x.row(2, 2), 0);
        due("undo()", x.undo(), 3);
        due("rows", x.count(0), 2);
        readsAs(":0=1,1=1,2=1,3=1,4=1,5=1,6=1,7=1,8=1,9=1,10=1,11=1,12=1,13=1,14=1,15=1;", 1);
        due("all columns", x.row(2, 4), 0xffff);

        begin("11 read, looked for a form only when the row is complete");
        addRows(1, 0);
        setAll(0, 0, 1);
        readsAs(":1=2,3=4;:0=1;", 2);
        due("form of the first", x.row(1, 2), 1);
        due("its shift", x.row(1, 3), 0);
        due("form of the second", x.row(2, 2), 0);
    }

    private void readFails() {
        begin("11 read, failures");
        fails("x", 0);
        fails("  x", 2);
        fails("1", 1);
        fails("1 ", 2);
        fails("1 2:;", 2);
        fails("00:;", 1);
        fails("05:;", 1);
        fails("123:;", 2);
        fails("1;", 1);
        fails(":", 1);
        fails(": ", 2);
        fails("::;", 1);
        fails(":,;", 1);
        fails(":x", 1);
        fails(":1", 2);
        fails(":1;", 2);
        fails(":1=", 3);
        fails(":1=;", 3);
        fails(":1==2;", 3);
        fails(":1=2", 4);
        fails(":1=2 ", 5);
        fails(":1=2,", 5);
        fails(":1=2,;", 5);
        fails(":1=2 , ;", 7);
        fails(":1=2 3=4;", 5);
        fails(":1=2:", 4);
        fails(":1=2;x", 5);
        fails(":1=2;;", 5);
        fails(":1=2;5", 6);
        fails(":1=2,1=3;", 5);
        fails(":2=2, 1=3;", 6);
        fails(":12=2,11=3;", 6);
        fails(":16=1;", 1);
        fails(":99", 1);
        fails(":16x", 1);
        fails(":161=1;", 3);
        fails(":15=1,", 6);
        fails(":15=1,1", 6);
        fails(":01=1;", 2);
        fails(":00=1;", 2);
        fails(":1=0", 3);
        fails(":1=0;", 3);
        fails(":1=00;", 4);
        fails("12: 3 = 12;", 8);
        fails("12:3=12", 5);
        fails("12:3=123;", 7);
        fails("12:3=1 2;", 7);
        fails("12:3=1\t;", 6);
        fails(":1=2;:1=2;:1=0;", 13);
        String full = ":0=1,1=1,2=1,3=1,4=1,5=1,6=1,7=1,8=1,9=1,10=1,11=1,12=1,13=1,14=1,15=1";
        fails(full + ",9=1;", 71);
        fails(full + ", 9=1;", 72);
        fails(full + ",15=1;", 71);
        fails(full + ",155=1;", 73);
        fails(full + ",;", 71);
        fails(full + ", ", 72);
        fails(full, 70);
        readsAs("12:3=1;", 1);
        due("cells", x.count(3), 1);
    }

    private void readIsFull() {
        begin("11 read, a row too many");
        readsAs(":;:;:;:;:;:;:;:;:;:;:;:;:;:;:;:;:;:;:;:;:;:;:;:;", 24);
        failsAt(":;", 0);
        failsAt("  123:;", 2);
        failsAt(" x", 1);
        readsAs("  ", 0);
        x.removeLast();
        failsAt(":; 5:;", 3);
        failsAt(":;:;", 2);
        failsAt(":1;:;", 2);
        readsAs(":1=2; ", 1);
        due("rows", x.count(0), 24);
        due("form", x.row(23, 2), 0);
    }

    // ---- promises 12 to 16: looking

    private void get() {
        begin("12 get");
        due("get without rows", x.get(0, 0), INVALID);
        lightBeforeHeavy();
        for (int[] arguments : new int[][] {{-1, 0}, {2, 0}, {0, -1}, {0, 16}, {MIN, 0}, {0, MAX}}) {
            due("get of wrong arguments", x.get(arguments[0], arguments[1]), INVALID);
        }
        due("an entry", x.get(0, 0), 1);
        due("a stranger's cell", x.get(0, 1), 0);
        due("an empty cell", x.get(0, 2), 0);
        due("another stranger's cell", x.get(0, 3), 0);
        due("an entry at a shift", x.get(1, 2), 8);
        x.setDefault(0, 4);
        due("the default for a stranger", x.get(0, 1), 4);
        due("the default far away", x.get(0, 15), 4);
    }

    private void count() {
        begin("13 count");
        lightBeforeHeavy();
        x.append('1');
        x.append('2');
        int[] wanted = {2, 2, 3, 3, 4, 1, 2, 5, 2};
        for (int what = 0; what <= 8; what++) {
            due("count(" + what + ")", x.count(what), wanted[what]);
        }
        for (int wrong : new int[] {-1, 9, MIN, MAX}) {
            due("count(" + wrong + ")", x.count(wrong), INVALID);
        }
        due("history", x.count(7), 5);

        begin("13 count, of a shared form");
        addRows(4, 0);
        setAll(0, 0, 1);
        setAll(1, 0, 1);
        setAll(2, 0, 2, 2, 2);
        due("forms", x.count(1), 2);
        due("weights", x.count(2), 4);
        due("cells", x.count(3), 3);
        due("refused, each row by itself", x.count(6), 4);
        setAll(0, 0, 0);
        setAll(1, 0, 0);
        due("waste at the front", x.count(5), 2);
        due("refused without strangers", x.count(6), 0);

        begin("13 count, behind a row that is gone");
        addRows(2, 0);
        setAll(0, 0, 1);
        setAll(1, 0, 9, 2, 8);
        x.removeLast();
        int[] left = {1, 1, 1, 1, 1, 0, 0, 5, 0};
        for (int what = 0; what <= 8; what++) {
            due("count(" + what + ")", x.count(what), left[what]);
        }
    }

    private void row() {
        begin("14 row");
        due("row without rows", x.row(0, 0), INVALID);
        lightBeforeHeavy();
        x.setDefault(1, 77);
        int[] wanted = {77, 2, 1, 1, 5};
        for (int what = 0; what <= 4; what++) {
            due("row(1, " + what + ")", x.row(1, what), wanted[what]);
        }
        x.set(0, 0, 0);
        int[] without = {0, 0, NONE, NONE, 0};
        for (int what = 0; what <= 4; what++) {
            due("row(0, " + what + ")", x.row(0, what), without[what]);
        }
        for (int[] arguments : new int[][] {{-1, 0}, {2, 0}, {0, -1}, {0, 5}, {MAX, 2}, {0, MIN}}) {
            due("row of wrong arguments", x.row(arguments[0], arguments[1]), INVALID);
        }
        x.set(0, 15, 9);
        due("row(0, 4)", x.row(0, 4), 32768);
    }

    private void form() {
        begin("15 form");
        lightBeforeHeavy();
        due("form(1, 0)", x.form(1, 0), 1);
        due("form(1, 1)", x.form(1, 1), 1);
        due("form(1, 2)", x.form(1, 2), 2);
        due("form(2, 0)", x.form(2, 0), NONE);
        due("form(2, 1)", x.form(2, 1), NONE);
        due("form(23, 2)", x.form(23, 2), NONE);
        due("form(23, 3)", x.form(23, 3), INVALID);
        for (int[] arguments : new int[][] {{-1, 0}, {24, 0}, {0, -1}, {0, 3}, {NONE, 0}, {MAX, 0}, {0, MIN}}) {
            due("form of wrong arguments", x.form(arguments[0], arguments[1]), INVALID);
        }
        x.set(0, 2, 8);
        x.set(0, 0, 9);
        due("sharers", x.form(1, 1), 2);
        due("weight of a shared form", x.form(1, 2), 2);
        due("the other one", x.form(0, 1), NONE);
    }

    private void cell() {
        begin("16 cell");
        lightBeforeHeavy();
        int[] values = {1, 9, NONE, 8, NONE};
        int[] marks = {0, 1, NONE, 1, NONE};
        for (int cell = 0; cell < values.length; cell++) {
            due("cell(" + cell + ", 0)", x.cell(cell, 0), values[cell]);
            due("cell(" + cell + ", 1)", x.cell(cell, 1), marks[cell]);
        }
        due("cell(799, 0)", x.cell(799, 0), NONE);
        for (int[] arguments : new int[][] {{-1, 0}, {800, 0}, {0, -1}, {0, 2}, {2, 2}, {MAX, 0}, {0, MIN}}) {
            due("cell of wrong arguments", x.cell(arguments[0], arguments[1]), INVALID);
        }
        x.setDefault(0, 5);
        x.set(0, 0, 0);
        due("the value 0", x.cell(0, 0), 0);
        due("the mark 0", x.cell(0, 1), 0);
    }

    // ---- promises 17 to 20: what could be

    private void fit() {
        begin("17 fit");
        for (int wrong : new int[] {0, -1, 65536, MIN, MAX}) {
            due("fit(" + wrong + ")", x.fit(wrong), INVALID);
        }
        due("fit(1) of an empty store", x.fit(1), 0);
        due("fit(65535) of an empty store", x.fit(65535), 0);
        lightBeforeHeavy();
        due("fit(1)", x.fit(1), 2);
        due("fit(3)", x.fit(3), 4);
        due("fit(5)", x.fit(5), 2);
        due("fit(2)", x.fit(2), 1);
        due("fit(4)", x.fit(4), 0);
        due("fit(32768)", x.fit(32768), 0);
        due("fit(65535)", x.fit(65535), 4);
        due("cells", x.count(3), 3);
        due("history", x.count(7), 5);

        begin("17 fit, behind 24 full forms");
        addRows(24, 0);
        for (int row = 0; row < 24; row++) {
            for (int column = 0; column < 16; column++) {
                x.set(row, column, row + 1);
            }
        }
        x.push();
        due("shift of the last one", x.row(23, 3), 368);
        due("end", x.count(4), 384);
        due("fit(65535)", x.fit(65535), 384);
        due("fit(32768)", x.fit(32768), 369);
    }

    private void endBy() {
        begin("18 endBy");
        due("endBy(0) without rows", x.endBy(0), 0);
        due("endBy(1) without rows", x.endBy(1), 0);
        for (int wrong : new int[] {-1, 2, MIN, MAX}) {
            due("endBy(" + wrong + ")", x.endBy(wrong), INVALID);
        }
        lightBeforeHeavy();
        due("endBy(0)", x.endBy(0), 3);
        due("endBy(1)", x.endBy(1), 4);
        due("endBy(0) again", x.endBy(0), 3);
        due("end", x.count(4), 4);
        due("history", x.count(7), 5);
        due("shift", x.row(1, 3), 1);
        due("cell", x.cell(3, 1), 1);
        x.push();
        due("endBy(1) then", x.endBy(1), 4);
        due("end then", x.count(4), 3);
    }

    private void slimmer() {
        begin("19 slimmer");
        due("slimmer() without rows", x.slimmer(), 0);
        addRows(2, 0);
        due("slimmer() without entries", x.slimmer(), 0);
        for (int column = 0; column < 16; column++) {
            x.set(0, column, 7);
            x.set(1, column, column < 9 ? 7 : 8);
        }
        due("slimmer()", x.slimmer(), 16 + 9);
        due("weights", x.count(2), 32);
        due("default", x.row(0, 0), 0);
        due("history", x.count(7), 5);
        x.slim(0);
        due("slimmer() then", x.slimmer(), 9);
        x.slim(1);
        due("slimmer() at last", x.slimmer(), 0);
        x.set(1, 0, 8);
        due("slimmer() of eight values 7 and eight values 8", x.slimmer(), 0);
        x.set(1, 8, 8);
        due("slimmer() of seven values 7 and nine values 8", x.slimmer(), 2);
        x.removeLast();
        due("slimmer() without that row", x.slimmer(), 0);
    }

    private void like() {
        begin("20 like");
        due("like without rows", x.like(0), INVALID);
        x.add(0);
        due("like of the only one", x.like(0), NONE);
        due("like(-1)", x.like(-1), INVALID);
        due("like(1)", x.like(1), INVALID);
        addRows(2, 1);
        x.add(0);
        due("like(0)", x.like(0), 3);
        due("like(3)", x.like(3), 0);
        due("like(1)", x.like(1), 2);
        due("like(2)", x.like(2), 1);
        x.removeLast();
        due("no value in common: the smallest", x.like(0), 1);
        due("no value in common, of row 1", x.like(1), 2);
        x.set(2, 4, 0);
        due("one value in common", x.like(0), 2);
        x.set(1, 9, 0);
        due("a tie: the smallest", x.like(0), 1);
        due("values are the same by the default or an entry", x.like(2), 1);
        due("history", x.count(7), 5);

        begin("20 like, the first and the last column");
        for (int column : new int[] {0, 15}) {
            x = new PushedTables();
            addRows(3, 0);
            x.setDefault(1, 1);
            x.setDefault(2, 2);
            x.set(2, column, 0);
            due("like(0)", x.like(0), 2);
            due("like(1)", x.like(1), 0);
            due("like(2)", x.like(2), 0);
        }
    }

    // ---- all promises at once, on 24 rows of one form each

    private void fullTable() {
        begin("a full table");
        addRows(24, 0);
        for (int row = 0; row < 24; row++) {
            x.set(row, 15, row + 1);
        }
        due("forms", x.count(1), 24);
        due("shift of the last row", x.row(23, 3), 23);
        due("end", x.count(4), 39);
        due("refused", x.count(6), 15 * 16 / 2 + 8 * 15);
        due("endBy(0)", x.endBy(0), 39);
        due("endBy(1)", x.endBy(1), 39);
        due("slimmer()", x.slimmer(), 0);
        due("like(23)", x.like(23), 0);
        due("slim(23)", x.slim(23), 0);
        due("set(23, 15, 99)", x.set(23, 15, 99), 24);
        due("its form", x.row(23, 2), 23);
        due("setDefault(23, 99)", x.setDefault(23, 99), 0);
        due("set(0, 15, 77)", x.set(0, 15, 77), 1);
        due("a form in place of the first", x.row(0, 3), 0);
        due("push()", x.push(), 38);
        due("forms then", x.count(1), 23);
        due("undo()", x.undo(), 4);
        due("undo()", x.undo(), 3);
        due("value", x.get(0, 15), 1);
        due("cell", x.cell(15, 0), 1);
        failsAt(":;", 0);
    }
}
