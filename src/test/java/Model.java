import java.util.ArrayDeque;
import java.util.ArrayList;
import java.util.Comparator;
import java.util.Deque;
import java.util.List;
import java.util.Map;
import java.util.TreeMap;
import java.util.regex.Matcher;
import java.util.regex.Pattern;

/** The document once more, by other means than the class (maps of entries, no store that is kept), to compare with. */
final class Model {
    private static final Pattern SPACES = Pattern.compile(" *");
    private static final Pattern DIGITS = Pattern.compile("0|[1-9][0-9]?");

    static final class Row {
        int byDefault;
        final TreeMap<Integer, Integer> entries = new TreeMap<>();
        Form form;

        int value(int column) {
            return entries.getOrDefault(column, byDefault);
        }
    }

    static final class Form {
        int number;
        int shift;
        Map<Integer, Integer> entries;
    }

    /** A failure to read, with its place. */
    @SuppressWarnings("serial")
    static final class Failure extends Exception {
        final int place;

        Failure(int place) {
            this.place = place;
        }
    }

    private List<Row> rows = new ArrayList<>();
    private final Deque<List<Row>> history = new ArrayDeque<>();
    private String text = "";

    // ---- what follows from the rows

    private static List<Row> copyOf(List<Row> rows) {
        List<Row> copies = new ArrayList<>();
        for (Row row : rows) {
            Row copy = new Row();
            copy.byDefault = row.byDefault;
            copy.entries.putAll(row.entries);
            copy.form = row.form;
            copies.add(copy);
        }
        return copies;
    }

    private static TreeMap<Integer, Form> formsOf(List<Row> rows) {
        TreeMap<Integer, Form> forms = new TreeMap<>();
        for (Row row : rows) {
            if (row.form != null) {
                forms.put(row.form.number, row.form);
            }
        }
        return forms;
    }

    /** By the cell's number: its value and its mark. */
    private static TreeMap<Integer, int[]> storeOf(List<Row> rows) {
        TreeMap<Integer, int[]> store = new TreeMap<>();
        for (Form form : formsOf(rows).values()) {
            form.entries.forEach((column, value) -> {
                if (store.put(form.shift + column, new int[] {value, form.number}) != null) {
                    throw new IllegalStateException("two forms in one cell");
                }
            });
        }
        return store;
    }

    private static int endOf(List<Row> rows) {
        TreeMap<Integer, int[]> store = storeOf(rows);
        return store.isEmpty() ? 0 : store.lastKey() + 1;
    }

    private static int firstShift(List<Row> rows, Iterable<Integer> columns) {
        TreeMap<Integer, int[]> store = storeOf(rows);
        for (int shift = 0;; shift++) {
            boolean fits = true;
            for (int column : columns) {
                fits &= !store.containsKey(shift + column);
            }
            if (fits) {
                return shift;
            }
        }
    }

    // ---- keeping it pushed

    private static void giveForm(List<Row> rows, Row row) {
        row.form = null;
        if (row.entries.isEmpty()) {
            return;
        }
        TreeMap<Integer, Form> forms = formsOf(rows);
        for (Form form : forms.values()) {
            if (form.entries.equals(row.entries)) {
                row.form = form;
                return;
            }
        }
        Form form = new Form();
        while (forms.containsKey(form.number)) {
            form.number++;
        }
        form.shift = firstShift(rows, row.entries.keySet());
        form.entries = Map.copyOf(row.entries);
        row.form = form;
    }

    private static void pushAnew(List<Row> rows, boolean byWeights) {
        rows.forEach(row -> row.form = null);
        List<Row> order = new ArrayList<>(rows);
        if (byWeights) {
            order.sort(Comparator.comparingInt((Row row) -> -row.entries.size()));
        }
        order.forEach(row -> giveForm(rows, row));
    }

    private void record() {
        history.addLast(copyOf(rows));
        if (history.size() > 5) {
            history.removeFirst();
        }
    }

    private boolean isRow(int row) {
        return row >= 0 && row < rows.size();
    }

    private static boolean within(int number, int least, int greatest) {
        return number >= least && number <= greatest;
    }

    // ---- the calls

    int add(int value) {
        if (!within(value, 0, 99)) {
            return -1;
        }
        if (rows.size() == 24) {
            return -3;
        }
        record();
        Row row = new Row();
        row.byDefault = value;
        rows.add(row);
        return rows.size() - 1;
    }

    int set(int row, int column, int value) {
        if (!isRow(row) || !within(column, 0, 15) || !within(value, 0, 99)) {
            return -1;
        }
        record();
        Row changed = rows.get(row);
        int previous = changed.value(column);
        if (previous != value) {
            if (value == changed.byDefault) {
                changed.entries.remove(column);
            } else {
                changed.entries.put(column, value);
            }
            giveForm(rows, changed);
        }
        return previous;
    }

    int setDefault(int row, int value) {
        if (!isRow(row) || !within(value, 0, 99)) {
            return -1;
        }
        record();
        Row changed = rows.get(row);
        changed.byDefault = value;
        if (changed.entries.values().removeIf(entry -> entry == value)) {
            giveForm(rows, changed);
        }
        return changed.entries.size();
    }

    int removeLast() {
        if (rows.isEmpty()) {
            return -2;
        }
        record();
        rows.remove(rows.size() - 1);
        return rows.size();
    }

    /** Tries every default, the smallest first. */
    private static int slimDefault(Row row) {
        int best = 0;
        for (int candidate = 1; candidate <= 99; candidate++) {
            if (weightWith(row, candidate) < weightWith(row, best)) {
                best = candidate;
            }
        }
        return best;
    }

    private static int weightWith(Row row, int candidate) {
        int weight = 0;
        for (int column = 0; column < 16; column++) {
            weight += row.value(column) == candidate ? 0 : 1;
        }
        return weight;
    }

    int slim(int row) {
        if (!isRow(row)) {
            return -1;
        }
        record();
        Row changed = rows.get(row);
        int slim = slimDefault(changed);
        if (slim != changed.byDefault) {
            TreeMap<Integer, Integer> entries = new TreeMap<>();
            for (int column = 0; column < 16; column++) {
                if (changed.value(column) != slim) {
                    entries.put(column, changed.value(column));
                }
            }
            changed.entries.clear();
            changed.entries.putAll(entries);
            changed.byDefault = slim;
            giveForm(rows, changed);
        }
        return slim;
    }

    int push() {
        record();
        pushAnew(rows, true);
        return endOf(rows);
    }

    int undo() {
        if (history.isEmpty()) {
            return -2;
        }
        rows = history.removeLast();
        return history.size();
    }

    int append(int character) {
        if (!within(character, 1, 255)) {
            return -1;
        }
        if (text.length() == 100) {
            return -3;
        }
        text += (char) character;
        return text.length();
    }

    int clearText() {
        int previous = text.length();
        text = "";
        return previous;
    }

    int read() {
        List<Row> added;
        try {
            added = parse(24 - rows.size());
        } catch (Failure failure) {
            return -1000 - failure.place;
        }
        record();
        for (Row row : added) {
            rows.add(row);
            giveForm(rows, row);
        }
        text = "";
        return added.size();
    }

    // ---- reading: regular expressions eat the text from the left

    private int place;

    private List<Row> parse(int room) throws Failure {
        place = 0;
        List<Row> added = new ArrayList<>();
        eatSpaces();
        while (place < text.length()) {
            if (added.size() == room) {
                throw new Failure(place);
            }
            added.add(parseRow());
            eatSpaces();
        }
        return added;
    }

    private Row parseRow() throws Failure {
        Row row = new Row();
        if (!nextIs(':')) {
            row.byDefault = eatNumber();
            eatSpaces();
        }
        eat(':');
        eatSpaces();
        int before = -1;
        while (before < 0 && !nextIs(';') || before >= 0 && nextIs(',')) {
            if (before >= 0) {
                eat(',');
                eatSpaces();
            }
            int start = place;
            int column = eatNumber();
            if (column > 15 || column <= before) {
                throw new Failure(start);
            }
            eatSpaces();
            eat('=');
            eatSpaces();
            start = place;
            int value = eatNumber();
            if (value == row.byDefault) {
                throw new Failure(start);
            }
            row.entries.put(column, value);
            before = column;
            eatSpaces();
        }
        eat(';');
        return row;
    }

    private boolean nextIs(char sign) {
        return place < text.length() && text.charAt(place) == sign;
    }

    private void eat(char sign) throws Failure {
        if (!nextIs(sign)) {
            throw new Failure(place);
        }
        place++;
    }

    private void eatSpaces() {
        Matcher matcher = SPACES.matcher(text).region(place, text.length());
        matcher.lookingAt();
        place = matcher.end();
    }

    private int eatNumber() throws Failure {
        Matcher matcher = DIGITS.matcher(text).region(place, text.length());
        if (!matcher.lookingAt()) {
            throw new Failure(place);
        }
        place = matcher.end();
        if (place < text.length() && "0123456789".indexOf(text.charAt(place)) >= 0) {
            throw new Failure(place);
        }
        return Integer.parseInt(matcher.group());
    }

    // ---- looking

    int get(int row, int column) {
        return isRow(row) && within(column, 0, 15) ? rows.get(row).value(column) : -1;
    }

    int count(int what) {
        switch (what) {
            case 0: return rows.size();
            case 1: return formsOf(rows).size();
            case 2: return rows.stream().mapToInt(row -> row.entries.size()).sum();
            case 3: return storeOf(rows).size();
            case 4: return endOf(rows);
            case 5: return endOf(rows) - storeOf(rows).size();
            case 6: return refused();
            case 7: return history.size();
            case 8: return text.length();
            default: return -1;
        }
    }

    private int refused() {
        TreeMap<Integer, int[]> store = storeOf(rows);
        int refused = 0;
        for (Row row : rows) {
            for (int column = 0; column < 16; column++) {
                int[] cell = row.form == null ? null : store.get(row.form.shift + column);
                refused += cell != null && cell[1] != row.form.number ? 1 : 0;
            }
        }
        return refused;
    }

    int row(int number, int what) {
        if (!isRow(number) || !within(what, 0, 4)) {
            return -1;
        }
        Row row = rows.get(number);
        switch (what) {
            case 0: return row.byDefault;
            case 1: return row.entries.size();
            case 2: return row.form == null ? -9 : row.form.number;
            case 3: return row.form == null ? -9 : row.form.shift;
            default: return row.entries.keySet().stream().mapToInt(column -> 1 << column).sum();
        }
    }

    int form(int number, int what) {
        if (!within(number, 0, 23) || !within(what, 0, 2)) {
            return -1;
        }
        Form form = formsOf(rows).get(number);
        if (form == null) {
            return -9;
        }
        switch (what) {
            case 0: return form.shift;
            case 1: return (int) rows.stream().filter(row -> row.form == form).count();
            default: return form.entries.size();
        }
    }

    int cell(int cell, int what) {
        if (!within(cell, 0, 799) || !within(what, 0, 1)) {
            return -1;
        }
        int[] found = storeOf(rows).get(cell);
        return found == null ? -9 : found[what];
    }

    // ---- what could be

    int fit(int columns) {
        if (!within(columns, 1, 65535)) {
            return -1;
        }
        List<Integer> set = new ArrayList<>();
        for (int column = 0; column < 16; column++) {
            if ((columns & 1 << column) != 0) {
                set.add(column);
            }
        }
        return firstShift(rows, set);
    }

    int endBy(int order) {
        if (!within(order, 0, 1)) {
            return -1;
        }
        List<Row> copies = copyOf(rows);
        pushAnew(copies, order == 0);
        return endOf(copies);
    }

    int slimmer() {
        return rows.stream().mapToInt(row -> row.entries.size() - weightWith(row, slimDefault(row))).sum();
    }

    int like(int number) {
        if (!isRow(number)) {
            return -1;
        }
        int best = -9;
        int fewest = 17;
        for (int other = 0; other < rows.size(); other++) {
            int differences = 0;
            for (int column = 0; column < 16; column++) {
                differences += rows.get(other).value(column) == rows.get(number).value(column) ? 0 : 1;
            }
            if (other != number && differences < fewest) {
                fewest = differences;
                best = other;
            }
        }
        return best;
    }
}
