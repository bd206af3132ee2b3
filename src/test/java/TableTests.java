import java.util.ArrayList;
import java.util.List;
import java.util.function.Consumer;
import java.util.function.ToIntFunction;

/** What the tests by hand share: a fresh object, answers that are due, rows and texts in one call. */
abstract class TableTests {
    static final int INVALID = PushedTables.INVALID_ARGUMENT;
    static final int ILLEGAL = PushedTables.ILLEGAL_STATE;
    static final int FULL = PushedTables.CAPACITY_EXCEEDED;
    static final int NONE = PushedTables.NONE;
    static final int MIN = Integer.MIN_VALUE;
    static final int MAX = Integer.MAX_VALUE;

    /** Nothing is promised behind an object's 512th call: so many looks, then a new object makes its calls again. */
    private static final int LOOKS_AT_ONE_OBJECT = 100;
    private static final List<Look> LOOKS = allLooks();

    final Checks checks = new Checks();
    PushedTables x = new PushedTables();
    private String subject = "";

    /** A call that changes nothing. */
    private static final class Look {
        final String name;
        final ToIntFunction<PushedTables> call;

        Look(String name, ToIntFunction<PushedTables> call) {
            this.name = name;
            this.call = call;
        }
    }

    /** Names what is tested from here on, and makes a new object for it. */
    void begin(String name) {
        subject = name;
        x = new PushedTables();
    }

    void due(String call, int got, int want) {
        checks.equal(subject + ": " + call, got, want);
    }

    static void addRows(PushedTables tables, int number, int value) {
        for (int i = 0; i < number; i++) {
            tables.add(value);
        }
    }

    void addRows(int number, int value) {
        addRows(x, number, value);
    }

    /** Sets entries of a row: column, value, column, value and so on. */
    static void setAll(PushedTables tables, int row, int... columnsAndValues) {
        for (int i = 0; i < columnsAndValues.length; i += 2) {
            tables.set(row, columnsAndValues[i], columnsAndValues[i + 1]);
        }
    }

    void setAll(int row, int... columnsAndValues) {
        setAll(x, row, columnsAndValues);
    }

    /** A row {0} in cell 0, and behind it a row {0, 2} at shift 1, which by weights would be at 0. */
    static void lightBeforeHeavy(PushedTables tables) {
        addRows(tables, 2, 0);
        setAll(tables, 0, 0, 1);
        setAll(tables, 1, 0, 9, 2, 8);
    }

    void lightBeforeHeavy() {
        lightBeforeHeavy(x);
    }

    // ---- texts

    static void appendAll(PushedTables tables, String text) {
        for (int i = 0; i < text.length(); i++) {
            tables.append(text.charAt(i));
        }
    }

    void write(String text) {
        x.clearText();
        appendAll(x, text);
    }

    void readsAs(String text, int want) {
        write(text);
        due("read of \"" + text + "\"", x.read(), want);
    }

    void failsAt(String text, int place) {
        int history = x.count(7);
        int rows = x.count(0);
        readsAs(text, -1000 - place);
        due("length after \"" + text + "\"", x.count(8), text.length());
        due("history after \"" + text + "\"", x.count(7), history);
        due("rows after \"" + text + "\"", x.count(0), rows);
    }

    /** The same on a new object. */
    void fails(String text, int place) {
        x = new PushedTables();
        failsAt(text, place);
    }

    // ---- all that can be seen of an object

    private static List<Look> allLooks() {
        List<Look> looks = new ArrayList<>();
        for (int what = 0; what <= 6; what++) {
            int number = what;
            looks.add(new Look("count(" + what + ")", x -> x.count(number)));
        }
        for (int number = 0; number < 24; number++) {
            addLooksAtRow(looks, number);
        }
        for (int cell = 0; cell < 800; cell++) {
            int number = cell;
            looks.add(new Look("cell(" + cell + ", 0)", x -> x.cell(number, 0)));
            looks.add(new Look("cell(" + cell + ", 1)", x -> x.cell(number, 1)));
        }
        return looks;
    }

    private static void addLooksAtRow(List<Look> looks, int number) {
        for (int what = 0; what <= 4; what++) {
            int property = what;
            looks.add(new Look("row(" + number + ", " + what + ")", x -> x.row(number, property)));
        }
        for (int what = 0; what <= 2; what++) {
            int property = what;
            looks.add(new Look("form(" + number + ", " + what + ")", x -> x.form(number, property)));
        }
        for (int column = 0; column < 16; column++) {
            int place = column;
            looks.add(new Look("get(" + number + ", " + column + ")", x -> x.get(number, place)));
        }
    }

    private static PushedTables newObject(Consumer<PushedTables> calls) {
        PushedTables tables = new PushedTables();
        calls.accept(tables);
        return tables;
    }

    /** The same rows, forms and cells are seen after the one calls as after the others. */
    void sameStates(String what, Consumer<PushedTables> calls, Consumer<PushedTables> others) {
        PushedTables one = null;
        PushedTables other = null;
        for (int i = 0; i < LOOKS.size(); i++) {
            if (i % LOOKS_AT_ONE_OBJECT == 0) {
                one = newObject(calls);
                other = newObject(others);
            }
            Look look = LOOKS.get(i);
            due(what + ", then " + look.name, look.call.applyAsInt(one), look.call.applyAsInt(other));
        }
    }

    /** Nothing tells the objects apart: neither states nor texts nor histories. */
    void sameObjects(String what, Consumer<PushedTables> calls, Consumer<PushedTables> others) {
        for (int undos = 0; undos <= 5; undos++) {
            int turns = undos;
            Consumer<PushedTables> goBack = tables -> {
                for (int turn = 0; turn < turns; turn++) {
                    tables.undo();
                }
            };
            String after = what + ", " + undos + " undos";
            sameStates(after, calls.andThen(goBack), others.andThen(goBack));
            PushedTables one = newObject(calls.andThen(goBack));
            PushedTables other = newObject(others.andThen(goBack));
            due(after + ", history", one.count(7), other.count(7));
            due(after + ", text", one.count(8), other.count(8));
            due(after + ", read", one.read(), other.read());
            due(after + ", rows then", one.count(0), other.count(0));
        }
    }
}
