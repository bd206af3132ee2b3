import java.util.Random;

/** Runs of calls drawn from fixed seeds, on the class and on the model, whose answers must be the same. */
public final class ModelTests {
    private static final int RUNS = 2000;
    /** What later calls on an object answer is free. */
    private static final int MOST_CALLS = 512;

    private final Checks checks;
    private final Random random;
    private final String run;
    private final PushedTables tables = new PushedTables();
    private final Model model = new Model();
    /** What a run is like: how many values and columns it uses. */
    private final int values;
    private final int columns;
    private final int wrongArguments;
    private int calls = 0;

    private ModelTests(Checks checks, int seed) {
        this.checks = checks;
        random = new Random(seed);
        run = "run " + seed + ": ";
        values = 1 + random.nextInt(random.nextBoolean() ? 4 : 100);
        columns = 1 + random.nextInt(16);
        wrongArguments = random.nextInt(3) * 10;
    }

    public static void main(String[] args) {
        Checks checks = new Checks();
        for (int seed = 0; seed < RUNS && checks.allPassed(); seed++) {
            new ModelTests(checks, seed).play();
        }
        checks.end();
    }

    private void play() {
        int rowsAtFirst = random.nextInt(25);
        for (int i = 0; i < rowsAtFirst; i++) {
            equal("add", tables.add(0), model.add(0));
        }
        int callsOfActions = MOST_CALLS / 4 + random.nextInt(MOST_CALLS / 2);
        int looksBehindAnAction = random.nextInt(4);
        while (calls < callsOfActions && checks.allPassed()) {
            if (random.nextInt(40) == 0) {
                readSomeText();
            } else {
                act();
            }
            for (int i = 0; i < looksBehindAnAction; i++) {
                look();
            }
        }
        for (int what = 0; what <= 8; what++) {
            equal("count " + what, tables.count(what), model.count(what));
        }
        while (calls < MOST_CALLS && checks.allPassed()) {
            look();
        }
    }

    private void equal(String what, int got, int due) {
        calls++;
        if (calls <= MOST_CALLS) {
            checks.equal(run + "call " + calls + ", " + what, got, due);
        }
    }

    // ---- arguments, some of them out of range

    private int argument(int bound) {
        if (random.nextInt(100) >= wrongArguments) {
            return random.nextInt(bound);
        }
        int[] edges = {-1, bound, bound - 1, 0, Integer.MIN_VALUE, Integer.MAX_VALUE, -9};
        return edges[random.nextInt(edges.length)];
    }

    private int someRow() {
        return argument(Math.max(1, model.count(0)));
    }

    // ---- calls

    private void act() {
        int row = someRow();
        int value = random.nextInt(8) == 0 ? argument(100) : argument(values);
        switch (random.nextInt(20)) {
            case 0:
                equal("add " + value, tables.add(value), model.add(value));
                break;
            case 1:
                equal("setDefault " + row + " " + value, tables.setDefault(row, value), model.setDefault(row, value));
                break;
            case 2:
                equal("slim " + row, tables.slim(row), model.slim(row));
                break;
            case 3:
                undoOrPushOrRemove();
                break;
            case 4:
                actOnText();
                break;
            default:
                int column = random.nextInt(8) == 0 ? argument(16) : argument(columns);
                equal("set " + row + " " + column + " " + value,
                    tables.set(row, column, value), model.set(row, column, value));
                break;
        }
    }

    private void undoOrPushOrRemove() {
        switch (random.nextInt(4)) {
            case 0:
                equal("push", tables.push(), model.push());
                break;
            case 1:
                equal("removeLast", tables.removeLast(), model.removeLast());
                break;
            default:
                for (int turn = random.nextInt(7); turn >= 0; turn--) {
                    equal("undo", tables.undo(), model.undo());
                }
                break;
        }
    }

    private void actOnText() {
        int character = 1 + argument(255);
        switch (random.nextInt(3)) {
            case 0:
                equal("clearText", tables.clearText(), model.clearText());
                break;
            case 1:
                equal("read", tables.read(), model.read());
                break;
            default:
                equal("append " + character, tables.append(character), model.append(character));
                break;
        }
    }

    private void look() {
        int row = someRow();
        int what = argument(9);
        switch (random.nextInt(12)) {
            case 0:
                equal("count " + what, tables.count(what), model.count(what));
                break;
            case 1:
                int set = random.nextBoolean() ? 1 + argument(65535) : 1 << argument(16) | 1 << argument(16);
                equal("fit " + set, tables.fit(set), model.fit(set));
                break;
            case 2:
                int order = argument(2);
                equal("endBy " + order, tables.endBy(order), model.endBy(order));
                break;
            case 3:
                equal("slimmer", tables.slimmer(), model.slimmer());
                break;
            case 4:
                equal("like " + row, tables.like(row), model.like(row));
                break;
            case 5:
                int column = argument(16);
                equal("get " + row + " " + column, tables.get(row, column), model.get(row, column));
                break;
            case 6:
            case 7:
                int property = argument(5);
                equal("row " + row + " " + property, tables.row(row, property), model.row(row, property));
                break;
            case 8:
            case 9:
                lookAtForm(argument(random.nextBoolean() ? 24 : Math.max(1, model.count(1))), argument(3));
                break;
            default:
                lookAtCell(random.nextInt(4) == 0 ? argument(800) : argument(model.count(4) + 1), argument(2));
                break;
        }
    }

    private void lookAtForm(int form, int what) {
        equal("form " + form + " " + what, tables.form(form, what), model.form(form, what));
    }

    private void lookAtCell(int cell, int what) {
        equal("cell " + cell + " " + what, tables.cell(cell, what), model.cell(cell, what));
    }

    // ---- texts

    private void readSomeText() {
        if (random.nextInt(4) != 0) {
            equal("clearText", tables.clearText(), model.clearText());
        }
        String text = spoilt(someTable());
        for (int i = 0; i < text.length(); i++) {
            equal("append", tables.append(text.charAt(i)), model.append(text.charAt(i)));
        }
        equal("read of \"" + text + "\"", tables.read(), model.read());
    }

    private String someTable() {
        StringBuilder text = new StringBuilder();
        int rows = random.nextInt(random.nextInt(4) == 0 ? 26 : 6);
        for (int row = 0; row < rows; row++) {
            addSpaces(text);
            int byDefault = random.nextBoolean() ? 0 : random.nextInt(values);
            if (byDefault != 0 || random.nextInt(6) == 0) {
                text.append(byDefault);
                addSpaces(text);
            }
            text.append(':');
            addSpaces(text);
            addEntries(text, byDefault);
            text.append(';');
        }
        addSpaces(text);
        return text.toString();
    }

    private void addEntries(StringBuilder text, int byDefault) {
        boolean first = true;
        int chance = 1 + random.nextInt(8);
        for (int column = 0; column < columns; column++) {
            int value = random.nextInt(values + 1);
            if (random.nextInt(chance) != 0 || value == byDefault && random.nextInt(30) != 0) {
                continue;
            }
            if (!first) {
                text.append(',');
                addSpaces(text);
            }
            first = false;
            text.append(column);
            addSpaces(text);
            text.append('=');
            addSpaces(text);
            text.append(value);
            addSpaces(text);
        }
    }

    private void addSpaces(StringBuilder text) {
        while (random.nextInt(8) == 0) {
            text.append(' ');
        }
    }

    private String spoilt(String text) {
        StringBuilder spoilt = new StringBuilder(text);
        String signs = "0123456789:=,; 9501x\t/";
        for (int turn = random.nextInt(3); turn > 0 && spoilt.length() > 0; turn--) {
            int place = random.nextInt(spoilt.length());
            char sign = signs.charAt(random.nextInt(signs.length()));
            switch (random.nextInt(4)) {
                case 0:
                    spoilt.setCharAt(place, sign);
                    break;
                case 1:
                    spoilt.insert(place, sign);
                    break;
                case 2:
                    spoilt.deleteCharAt(place);
                    break;
                default:
                    spoilt.setLength(place);
                    break;
            }
        }
        return spoilt.toString();
    }
}
