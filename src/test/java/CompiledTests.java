import java.io.PrintWriter;
import java.io.StringWriter;
import java.util.ArrayList;
import java.util.List;
import java.util.Map;
import java.util.Optional;
import java.util.Set;
import java.util.TreeMap;
import java.util.TreeSet;
import java.util.regex.Matcher;
import java.util.regex.Pattern;
import java.util.spi.ToolProvider;

/** What the compiled class tells of the rules of LANGUAGE.md: who calls whom, how deep, and who makes objects. */
public final class CompiledTests {
    private static final int DEEPEST_CALLS = 8;
    private static final int LONGEST_METHOD = 60;
    private static final String CONSTRUCTOR = "<init>";
    private static final String[] LIBRARY = {
        "java/lang/Object.<init>", "java/lang/System.arraycopy", "java/util/Arrays.fill", "java/lang/Integer.bitCount",
    };

    private static final Pattern CLASS = Pattern.compile("^(?:\\w+ )*class (\\S+) .*\\{$");
    private static final Pattern METHOD = Pattern.compile("^  (?:[\\w$\\[\\]]+ )*([\\w$]+)\\(.*\\);$");
    private static final Pattern CALL = Pattern.compile("invoke\\w+ .*// (?:Interface)?Method ([^:]+):");
    private static final Pattern MADE = Pattern.compile("^ *\\d+: (new|newarray|anewarray|multianewarray) ");
    private static final Pattern LINE = Pattern.compile("^ *line (\\d+): ");

    private static final class Method {
        final Set<String> calls = new TreeSet<>();
        boolean makesObjects = false;
        int firstLine = Integer.MAX_VALUE;
        int lastLine = 0;
    }

    private final Checks checks = new Checks();
    private final Map<String, Method> methods = new TreeMap<>();
    private final Set<String> library = new TreeSet<>();

    public static void main(String[] args) {
        CompiledTests tests = new CompiledTests();
        Optional<ToolProvider> javap = ToolProvider.findFirst("javap");
        if (javap.isEmpty()) {
            System.out.println("no javap here, so the compiled class is not looked at");
            return;
        }
        tests.readMethods(tests.disassembled(javap.get()));
        tests.callsAreNotDeep();
        tests.objectsAreMadeByConstructors();
        tests.methodsAreShort();
        tests.libraryIsSmall();
        tests.checks.end();
    }

    private String disassembled(ToolProvider javap) {
        List<String> arguments = new ArrayList<>(List.of("-c", "-p", "-l", "-cp", System.getProperty("java.class.path")));
        arguments.add(PushedTables.class.getName());
        for (Class<?> inside : PushedTables.class.getDeclaredClasses()) {
            arguments.add(inside.getName());
        }
        StringWriter printed = new StringWriter();
        PrintWriter out = new PrintWriter(printed);
        checks.holds("javap reads the class", javap.run(out, out, arguments.toArray(new String[0])) == 0);
        out.flush();
        return printed.toString();
    }

    private void readMethods(String printed) {
        String className = "";
        Method method = new Method();
        for (String line : printed.split("\\R")) {
            Matcher classLine = CLASS.matcher(line);
            Matcher methodLine = METHOD.matcher(line);
            if (classLine.matches()) {
                className = classLine.group(1);
            } else if (methodLine.matches()) {
                String name = methodLine.group(1).equals(className) ? CONSTRUCTOR : methodLine.group(1);
                method = new Method();
                checks.holds(className + "." + name + " is there once",
                    methods.put(className + "." + name, method) == null);
            } else {
                readInstruction(line, className, method);
            }
        }
        checks.holds("methods are found", methods.containsKey("PushedTables.add") && methods.size() > 19);
    }

    private void readInstruction(String line, String className, Method method) {
        Matcher call = CALL.matcher(line);
        if (call.find()) {
            addCall(call.group(1), className, method);
        }
        method.makesObjects |= MADE.matcher(line).find();
        Matcher lineNumber = LINE.matcher(line);
        if (lineNumber.find()) {
            int number = Integer.parseInt(lineNumber.group(1));
            method.firstLine = Math.min(method.firstLine, number);
            method.lastLine = Math.max(method.lastLine, number);
        }
    }

    /** The library's names have packages; a call within one class names none. */
    private void addCall(String called, String className, Method method) {
        String name = called.replace("\"", "");
        if (name.contains("/")) {
            library.add(name);
        } else {
            method.calls.add(name.contains(".") ? name : className + "." + name);
        }
    }

    // ---- the rules

    private void callsAreNotDeep() {
        for (String name : methods.keySet()) {
            List<String> chain = deepestChain(name, new ArrayList<>());
            checks.holds("calls too deep: " + chain, chain.size() <= DEEPEST_CALLS);
        }
    }

    private List<String> deepestChain(String name, List<String> callers) {
        List<String> here = new ArrayList<>(callers);
        here.add(name);
        checks.holds("a method that is not known: " + name, methods.containsKey(name));
        if (callers.contains(name) || !methods.containsKey(name)) {
            checks.holds("recursion: " + here, !callers.contains(name));
            return here;
        }
        List<String> deepest = here;
        for (String called : methods.get(name).calls) {
            List<String> chain = deepestChain(called, here);
            deepest = chain.size() > deepest.size() ? chain : deepest;
        }
        return deepest;
    }

    private void objectsAreMadeByConstructors() {
        methods.forEach((name, method) ->
            checks.holds(name + " makes objects", !method.makesObjects || name.endsWith("." + CONSTRUCTOR)));
    }

    private void methodsAreShort() {
        methods.forEach((name, method) -> {
            boolean initialises = name.endsWith("." + CONSTRUCTOR);
            checks.holds(name + " is too long", initialises || method.lastLine - method.firstLine < LONGEST_METHOD);
        });
    }

    private void libraryIsSmall() {
        checks.holds("of the library are called " + library, Set.of(LIBRARY).containsAll(library));
    }
}
