import java.io.IOException;
import java.lang.reflect.Field;
import java.lang.reflect.Method;
import java.lang.reflect.Modifier;
import java.nio.file.Files;
import java.nio.file.Path;
import java.util.Arrays;
import java.util.Set;
import java.util.TreeSet;
import java.util.regex.Matcher;
import java.util.regex.Pattern;

/** What a program can see of the rules of LANGUAGE.md: the face, the words that are ruled out, the sizes. */
public final class LanguageTests {
    private static final String SOURCE = "src/main/java/PushedTables.java";
    private static final String[] RULED_OUT = {
        "\\bthrow\\b", "\\bthrows\\b", "\\btry\\b", "\\bcatch\\b", "\\bsynchronized\\b", "\\bassert\\b", "->", "::",
        "\\bpackage\\b", "\\bString\\b", "Exact\\b", "\\bSystem\\.(?!arraycopy)", "\\bprotected\\b",
    };
    private static final String[] FACE = {
        "add(int)", "set(int, int, int)", "setDefault(int, int)", "removeLast()", "slim(int)", "push()", "undo()",
        "append(int)", "clearText()", "read()", "get(int, int)", "count(int)", "row(int, int)", "form(int, int)",
        "cell(int, int)", "fit(int)", "endBy(int)", "slimmer()", "like(int)",
    };
    private static final String[] CONSTANTS = {"INVALID_ARGUMENT", "ILLEGAL_STATE", "CAPACITY_EXCEEDED", "NONE"};

    private final Checks checks = new Checks();

    public static void main(String[] args) throws IOException {
        LanguageTests tests = new LanguageTests();
        tests.face();
        tests.classesInside();
        tests.words();
        tests.checks.end();
    }

    private void same(String what, Set<String> got, String[] due) {
        Set<String> wanted = new TreeSet<>(Arrays.asList(due));
        checks.holds(what + " are " + got + ", due are " + wanted, got.equals(wanted));
    }

    private void face() {
        Class<?> face = PushedTables.class;
        checks.holds("the class is public and final", Modifier.isFinal(face.getModifiers())
            && Modifier.isPublic(face.getModifiers()) && face.getPackageName().isEmpty());
        checks.holds("one constructor, and it is public", face.getDeclaredConstructors().length == 1
            && Modifier.isPublic(face.getDeclaredConstructors()[0].getModifiers()));
        Set<String> methods = new TreeSet<>();
        for (Method method : face.getDeclaredMethods()) {
            if (!Modifier.isPrivate(method.getModifiers())) {
                methods.add(method.getName() + Arrays.toString(method.getParameterTypes())
                    .replace('[', '(').replace(']', ')'));
                checks.holds(method + " answers an int", method.getReturnType() == int.class);
            }
        }
        same("the methods", methods, FACE);
        Set<String> fields = new TreeSet<>();
        for (Field field : face.getDeclaredFields()) {
            if (!Modifier.isPrivate(field.getModifiers())) {
                fields.add(field.getName());
                checks.holds(field + " is a constant", field.getType() == int.class
                    && Modifier.isStatic(field.getModifiers()) && Modifier.isFinal(field.getModifiers()));
            }
        }
        same("the constants", fields, CONSTANTS);
    }

    private void classesInside() {
        Set<String> publicNames = new TreeSet<>();
        for (String method : FACE) {
            publicNames.add(method.substring(0, method.indexOf('(')));
        }
        Class<?>[] inside = PushedTables.class.getDeclaredClasses();
        checks.holds("at most twelve classes", inside.length + 1 <= 12);
        for (Class<?> one : inside) {
            checks.holds(one + " is private and static", Modifier.isStatic(one.getModifiers())
                && Modifier.isPrivate(one.getModifiers()));
            namesAndFields(one, publicNames);
        }
        for (Method method : PushedTables.class.getDeclaredMethods()) {
            checks.holds(method + " bears no name of a public one", !Modifier.isPrivate(method.getModifiers())
                || !publicNames.contains(method.getName()));
        }
    }

    private void namesAndFields(Class<?> one, Set<String> publicNames) {
        int fields = 0;
        for (Field field : one.getDeclaredFields()) {
            fields++;
            checks.holds(field + " is not static", !Modifier.isStatic(field.getModifiers()));
        }
        checks.holds(one + " has at most twenty fields", fields <= 20);
        for (Method method : one.getDeclaredMethods()) {
            checks.holds(method + " bears no name of a public one", !publicNames.contains(method.getName()));
            checks.holds(method + " takes at most seven parameters", method.getParameterCount() <= 7);
        }
    }

    private void words() throws IOException {
        String source = Files.readString(Path.of(SOURCE));
        checks.holds("the signs are 1 to 127", source.chars().allMatch(sign -> sign >= 1 && sign <= 127));
        String code = source.replaceAll("(?s)/\\*.*?\\*/", "").replaceAll("//[^\n]*", "");
        for (String word : RULED_OUT) {
            Matcher matcher = Pattern.compile(word).matcher(code);
            checks.holds("ruled out: " + word, !matcher.find());
        }
        Matcher imports = Pattern.compile("(?m)^import (.*);").matcher(code);
        while (imports.find()) {
            checks.holds("import of " + imports.group(1), imports.group(1).equals("java.util.Arrays"));
        }
    }
}
