/** The sentences of the document about texts: each test bears the sentence, or a part of it, as its name. */
public final class TextTests extends TableTests {
    private static final String DIGITS = "0123456789";
    private static final String SIXTEEN_ENTRIES =
        ":0=1,1=1,2=1,3=1,4=1,5=1,6=1,7=1,8=1,9=1,10=1,11=1,12=1,13=1,14=1,15=1";

    public static void main(String[] args) {
        TextTests tests = new TextTests();
        tests.lengths();
        tests.characters();
        tests.defaultsOfRows();
        tests.commas();
        tests.numbers();
        tests.columns();
        tests.values();
        tests.spaces();
        tests.signsNotAllowed();
        tests.numbersNotAllowed();
        tests.digitsTooMany();
        tests.endsWhereSomethingIsMissing();
        tests.rowsTooMany();
        tests.rowsAreAdded();
        tests.failuresChangeNothing();
        tests.allShortTexts();
        tests.checks.end();
    }

    private void reads(String text, int rows) {
        x = new PushedTables();
        readsAs(text, rows);
        due("length after \"" + text + "\"", x.count(8), 0);
        due("history after \"" + text + "\"", x.count(7), 1);
        due("rows after \"" + text + "\"", x.count(0), rows);
    }

    /** A text whose failure is looked at alone: the object is used for many. */
    private int placeOf(String text) {
        PushedTables tables = new PushedTables();
        appendAll(tables, text);
        return -1000 - tables.read();
    }

    // ---- length and characters

    private void lengths() {
        begin("Texts: at most 100 characters");
        String rows = ":;".repeat(24);
        reads(rows + " ".repeat(52), 24);
        reads(" ".repeat(52) + rows, 24);
        reads(" ".repeat(94) + "9:0=1;", 1);
        due("the last row", x.get(0, 0), 1);
        reads(" ".repeat(100), 0);
        fails(" ".repeat(99) + ":", 100);
        fails(" ".repeat(99) + "7", 100);
        fails(" ".repeat(99) + "x", 99);
        fails(" ".repeat(97) + ":16", 98);
        begin("Texts: a character that is one too many is not appended");
        for (int length = 1; length <= 99; length++) {
            due("append(32)", x.append(' '), length);
        }
        due("append of the 100th", x.append(':'), 100);
        due("append of the 101st", x.append(';'), FULL);
        due("length", x.count(8), 100);
        due("read()", x.read(), -1100);
        due("clearText()", x.clearText(), 100);
        due("append(58)", x.append(':'), 1);
        due("append(59)", x.append(';'), 2);
        due("read()", x.read(), 1);
        due("append behind a text that was read", x.append(':'), 1);
    }

    private void characters() {
        begin("Promise 9: character code, 1 to 255");
        for (int wrong : new int[] {0, -1, 256, 257, 58 + 256, 58 - 256, 58 + 65536, MIN, MAX}) {
            due("append(" + wrong + ")", x.append(wrong), INVALID);
        }
        due("append(1)", x.append(1), 1);
        due("append(255)", x.append(255), 2);
        due("read()", x.read(), -1000);
        due("length", x.count(8), 2);
        begin("Promise 10: the previous length");
        due("clearText() of an empty text", x.clearText(), 0);
        appendAll(x, "1:");
        due("clearText()", x.clearText(), 2);
        due("clearText() again", x.clearText(), 0);
        due("read() of an empty text", x.read(), 0);
        appendAll(x, ";");
        due("nothing is left of the text before", x.read(), -1000);
    }

    // ---- the form of a table

    private void defaultsOfRows() {
        begin("Texts: the number in front of : is the default, 0 if it is missing");
        for (int number = 0; number <= 99; number++) {
            reads(number + ":;", 1);
            due("default", x.row(0, 0), number);
        }
        reads(":;", 1);
        due("default that is missing", x.row(0, 0), 0);
        reads("5:;:;", 2);
        due("default that is missing behind another row", x.row(1, 0), 0);
        due("value", x.get(1, 15), 0);
        reads("", 0);
        begin("Texts: nothing is left of a text before");
        readsAs("5:1=2,3=4;6:1=2;", 2);
        readsAs(":;7:;", 2);
        due("default that is missing", x.row(2, 0), 0);
        due("columns", x.row(2, 4) + x.row(3, 4), 0);
        failsAt("8:9=9,1", 6);
        readsAs(":2=1;", 1);
        due("default behind a text that failed", x.row(4, 0), 0);
        due("columns behind a text that failed", x.row(4, 4), 4);
    }

    private void commas() {
        begin("Texts: , must stand between two of these, and not behind the last one");
        reads(":1=2,3=4;", 1);
        reads(SIXTEEN_ENTRIES + ";", 1);
        due("columns", x.row(0, 4), 0xffff);
        fails(":1=2 3=4;", 5);
        fails(":1=2,;", 5);
        fails(":1=2, ;", 6);
        fails(":1=2,,3=4;", 5);
        fails(":,;", 1);
        fails(":,1=2;", 1);
        fails(":1,3=4;", 2);
        fails(":1=,3=4;", 3);
        fails(SIXTEEN_ENTRIES + ",;", 71);
        fails(SIXTEEN_ENTRIES + ",15=1;", 71);
    }

    private void numbers() {
        begin("Texts: a number is 1 or 2 digits, the first of two not 0");
        reads("0:;", 1);
        reads("9:;", 1);
        reads("10:0=0,1=9,2=11,3=99,10=90,15=1;", 1);
        due("values", x.get(0, 0) + x.get(0, 1) * 100 + x.get(0, 2) * 10000 + x.get(0, 3) * 1000000, 99110900);
        due("values of two-digit columns", x.get(0, 10) * 100 + x.get(0, 15), 9001);
        for (char digit = '0'; digit <= '9'; digit++) {
            fails("0" + digit + ":;", 1);
            fails(":0" + digit + "=1;", 2);
            fails("5:1=0" + digit + ";", 5);
            fails("10" + digit + ":;", 2);
            fails(":10" + digit + "=1;", 3);
            fails(":1=10" + digit + ";", 5);
        }
    }

    private void columns() {
        begin("Texts: a column is at most 15");
        for (int column = 0; column <= 15; column++) {
            reads(":" + column + "=1;", 1);
            due("columns", x.row(0, 4), 1 << column);
        }
        for (int column = 16; column <= 99; column++) {
            fails(":" + column + "=1;", 1);
        }
        fails("1:2=3,16=1;", 6);
        begin("Texts: a column that is not greater than the one before");
        for (int before = 0; before <= 15; before++) {
            String start = ":" + before + "=1, ";
            for (int column = 0; column <= before; column++) {
                fails(start + column + "=1;", start.length());
            }
            for (int column = before + 1; column <= 15; column++) {
                reads(start + column + "=1;", 1);
            }
        }
        reads(":15=1;:0=1;:15=1;", 3);
        fails(":2=1,5=1,5=1;", 9);
        fails(":2=1,5=1,3=1;", 9);
    }

    private void values() {
        begin("Texts: a value that is the default of its row");
        for (int number : new int[] {0, 1, 9, 10, 99}) {
            String start = number + ":3=";
            fails(start + number + ";", start.length());
            fails(start + number + ",4=50;", start.length());
            reads(start + (99 - number) + ";", 1);
        }
        fails(":3=0;", 3);
        fails("7:3=1,4=7;", 8);
        reads("1:3=10,4=11;", 1);
        reads("10:3=1,4=0;", 1);
        reads("5:;:3=5;", 2);
        fails("5:1=2;:1=0;", 9);
        fails("5:1=2;5:1=5;", 10);
        reads("3:3=4;", 1);
    }

    private void spaces() {
        begin("Texts: spaces may stand between all of these");
        reads("  10  :  1  =  2  ,  13  =  4  ;  :  ;  ", 2);
        due("default", x.row(0, 0), 10);
        due("columns", x.row(0, 4), 1 << 1 | 1 << 13);
        begin("Texts: spaces may not stand within a number");
        fails("1 0:;", 2);
        fails(":1 0=2;", 3);
        fails(":1=2 0;", 5);
        fails("1  0:;", 3);
        begin("Texts: spaces (code 32)");
        for (char sign : new char[] {1, '\t', '\n', '\r', 31, 33, 160, 255}) {
            fails(sign + ":;", 0);
            fails(":;" + sign, 2);
            fails("1" + sign + ":;", 1);
            fails(":" + sign + ";", 1);
            fails(":1" + sign + "=2;", 2);
            fails(":1=" + sign + "2;", 3);
            fails(":1=2" + sign + ";", 4);
            fails(":1=2," + sign + "3=4;", 5);
        }
    }

    // ---- places of failure

    /** Behind a start, each sign that is not allowed there fails at its own place, and no other one does. */
    private void onlyAllowed(String start, String allowed) {
        for (char sign = 1; sign <= 255; sign++) {
            boolean failsThere = placeOf(start + sign) == start.length();
            checks.holds("Texts: sign " + (int) sign + " behind \"" + start + "\"",
                failsThere != allowed.indexOf(sign) >= 0);
        }
    }

    private void signsNotAllowed() {
        onlyAllowed("", DIGITS + ": ");
        onlyAllowed(" ", DIGITS + ": ");
        onlyAllowed("5", DIGITS + ": ");
        onlyAllowed("0", ": ");
        onlyAllowed("12", ": ");
        onlyAllowed("5 ", ": ");
        onlyAllowed(":", DIGITS + "; ");
        onlyAllowed(": ", DIGITS + "; ");
        onlyAllowed(":1", DIGITS + "= ");
        onlyAllowed(":0", "= ");
        onlyAllowed(":12", "= ");
        onlyAllowed(":1 ", "= ");
        onlyAllowed("50:1=", DIGITS + " ");
        onlyAllowed("50:1= ", DIGITS + " ");
        onlyAllowed(":1=", "123456789 ");
        onlyAllowed("50:1=2", DIGITS + ",; ");
        onlyAllowed("50:1=0", ",; ");
        onlyAllowed("50:1=23", ",; ");
        onlyAllowed("50:1=2 ", ",; ");
        onlyAllowed("50:1=2,", "23456789 ");
        onlyAllowed("50:1=2, ", "23456789 ");
        onlyAllowed("50:1=2;", DIGITS + ": ");
    }

    private void numbersNotAllowed() {
        begin("Texts: of a number that is not allowed its first digit, as soon as it ends");
        fails(":16=1;", 1);
        fails(":16=x", 1);
        fails(":16 =1;", 1);
        fails(":16x", 1);
        fails(":16;", 1);
        fails(":2=1,2x", 5);
        fails(":2=1, 1:", 6);
        fails(":12=1,11,", 6);
        fails("7:2=7x", 4);
        fails("17:2=17=", 5);
        begin("Texts: also by the end of the text");
        fails(":16", 1);
        fails(":99", 1);
        fails(":  99", 3);
        fails(":2=1,2", 5);
        fails(":2=1,0", 5);
        fails(":12=1,1", 6);
        fails(":0=0", 3);
        fails("7:2=7", 4);
        fails("17:2=17", 5);
        begin("Texts: as long as it has not ended, it may still be allowed");
        fails(":12=1,13", 8);
        fails("17:2=1", 6);
        reads("7:2=77;", 1);
        reads(":2=1,10=1;", 1);
    }

    private void digitsTooMany() {
        begin("Texts: a digit too many, be it one behind a 0, at itself");
        fails("123:;", 2);
        fails("123", 2);
        fails("00:;", 1);
        fails("00", 1);
        fails(":100=1;", 3);
        fails(":161=1;", 3);
        fails(":01=1;", 2);
        fails(":2=1,00=1;", 6);
        fails(":2=1,111=1;", 7);
        fails(":1=123;", 5);
        fails(":1=00;", 4);
        fails("12:1=123;", 7);
        fails("5:1=05;", 5);
    }

    private void endsWhereSomethingIsMissing() {
        begin("Texts: at its length if it ends where something is missing");
        String text = "12 : 0 = 4 , 15 = 10 ; 7 :";
        for (int length = 1; length <= text.length(); length++) {
            boolean isTable = length == 22 || length == 23;
            due("place of \"" + text.substring(0, length) + "\"",
                placeOf(text.substring(0, length)), isTable ? -1001 : length);
        }
        fails(SIXTEEN_ENTRIES, 70);
        fails(SIXTEEN_ENTRIES + ",", 71);
        fails(SIXTEEN_ENTRIES + ", ", 72);
        fails(SIXTEEN_ENTRIES.substring(0, 69), 69);
    }

    private void rowsTooMany() {
        begin("Texts: a row that is one too many fails at its first character");
        reads(":;".repeat(24), 24);
        fails(":;".repeat(25), 48);
        fails(":;".repeat(24) + "  5:;", 50);
        fails(":;".repeat(24) + " 123", 49);
        fails(":;".repeat(24) + ":16=1;", 48);
        fails(":;".repeat(24) + "x", 48);
        fails(":;".repeat(23) + "x:;", 46);
        x = new PushedTables();
        addRows(23, 0);
        failsAt(":1=2;:1=2;", 5);
        failsAt(" 123:;:;", 3);
        readsAs(" ", 0);
        readsAs(":1=2;", 1);
        due("rows", x.count(0), 24);
        failsAt(":;", 0);
        failsAt("  :1=0;", 2);
        readsAs("", 0);
        readsAs("   ", 0);
        x.removeLast();
        readsAs("  :;  ", 1);
    }

    // ---- what reading does

    private void rowsAreAdded() {
        begin("Texts: its rows are added one by one, behind the rows that there are");
        x.add(0);
        x.set(0, 2, 1);
        readsAs("3:2=1;:2=2;4:;:2=2;", 4);
        due("history: one action", x.count(7), 3);
        int[] forms = {0, 0, 1, NONE, 1};
        for (int row = 0; row < 5; row++) {
            due("form of row " + row, x.row(row, 2), forms[row]);
        }
        due("sharers of the form that there was", x.form(0, 1), 2);
        due("the form of two rows of the text", x.form(1, 1), 2);
        due("its shift", x.form(1, 0), 1);
        due("undo() of all rows", x.undo(), 2);
        due("rows", x.count(0), 1);
        due("cells", x.count(3), 1);
        begin("Texts: it is looked for a form only when the row is complete");
        addRows(2, 0);
        setAll(0, 0, 1);
        setAll(1, 0, 2);
        setAll(0, 0, 0);
        readsAs("9:0=2,1=2;:0=2;", 2);
        due("form of the first row", x.row(2, 2), 0);
        due("its shift behind the other form", x.row(2, 3), 2);
        due("form of the second row", x.row(3, 2), 1);
        due("shift of a row that is not read", x.row(1, 3), 1);
        begin("Texts: numbers and shifts that are free");
        addRows(3, 0);
        setAll(0, 0, 1);
        setAll(1, 0, 2);
        setAll(2, 0, 3);
        setAll(1, 0, 0);
        readsAs(":15=4;:0=4;", 2);
        due("the smallest free number", x.row(3, 2), 1);
        due("the smallest shift", x.row(3, 3), 0);
        due("the next number", x.row(4, 2), 3);
        due("its shift, in the hole", x.row(4, 3), 1);
    }

    private void failuresChangeNothing() {
        begin("Promise 11: if it fails, the text is kept, and nothing changes");
        x.add(8);
        x.set(0, 0, 1);
        write(":1=2;3:4=5");
        due("read()", x.read(), -1010);
        due("rows", x.count(0), 1);
        due("forms", x.count(1), 1);
        due("history", x.count(7), 2);
        due("length", x.count(8), 10);
        x.append(';');
        due("read() of the text that was kept", x.read(), 2);
        due("columns", x.row(2, 4), 16);
        due("rows that were read once only", x.count(0), 3);
        begin("Promise 11: the text becomes empty, and a second reading adds nothing");
        write(":1=2;");
        due("read()", x.read(), 1);
        due("read() again", x.read(), 0);
        due("rows", x.count(0), 1);
        due("history", x.count(7), 2);
    }

    // ---- all texts of a few signs, compared with the model

    private void allShortTexts() {
        for (String start : new String[] {"", ":1=2,", "5:", " 1", ":15=9", ":;".repeat(23), ":;".repeat(24)}) {
            asTheModel(start, 4);
        }
    }

    private void asTheModel(String text, int signsToCome) {
        PushedTables tables = new PushedTables();
        Model model = new Model();
        for (int i = 0; i < text.length(); i++) {
            tables.append(text.charAt(i));
            model.append(text.charAt(i));
        }
        checks.equal("read of \"" + text + "\"", tables.read(), model.read());
        for (int row = 0; row < model.count(0); row++) {
            checks.equal("columns after \"" + text + "\"", tables.row(row, 4), model.row(row, 4));
        }
        if (signsToCome > 0) {
            for (char sign : "0156:=,; x".toCharArray()) {
                asTheModel(text + sign, signsToCome - 1);
            }
        }
    }
}
