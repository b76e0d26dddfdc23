import java.io.PrintWriter;
import java.io.StringWriter;
import java.util.ArrayDeque;
import java.util.LinkedHashSet;
import java.util.Map;
import java.util.Optional;
import java.util.Set;
import java.util.TreeMap;
import java.util.TreeSet;
import java.util.regex.Matcher;
import java.util.regex.Pattern;
import java.util.spi.ToolProvider;

/** What a look at the compiled class can tell of ../shared/LANGUAGE.md: who calls whom, how deep, and what is made where. */
public final class CodeTest {
    private static final int DEEPEST = 8;
    private static final Set<String> LIBRARY = Set.of("java/lang/Object.<init>", "java/lang/Math.max", "java/lang/Math.min",
        "java/lang/Integer.bitCount", "java/lang/System.arraycopy", "java/lang/String.length", "java/lang/String.charAt");
    private static final Set<String> READER = Set.of("readOr", "readAnd", "readNot", "readCompared", "readSum", "readTerm",
        "readOne");
    private static final Pattern METHOD = Pattern.compile("  (?:[a-z].* )?([\\w$]+(?=\\()|static (?=\\{)).*;");
    private static final Pattern CALL = Pattern.compile(".*// (?:Interface)?Method (?:([\\w/$]+)\\.)?\"?([\\w<>]+)\"?:.*");
    private static final Pattern CODE = Pattern.compile(" +\\d+: (\\w+).*");

    private static final Map<String, Set<String>> CALLED = new TreeMap<>();
    private static final Map<String, Set<String>> REACHED = new TreeMap<>();
    private static final Map<String, Integer> DEPTHS = new TreeMap<>();

    public static void main(String[] args) {
        Optional<ToolProvider> javap = ToolProvider.findFirst("javap");
        if (javap.isEmpty()) {
            System.out.println("no javap in this Java: the compiled class is not looked at");
            return;
        }
        look(javap.get(), GoneRed.class);
        for (Class<?> inside : GoneRed.class.getDeclaredClasses()) {
            look(javap.get(), inside);
        }
        Due.part("rule 4");
        CALLED.values().forEach(all -> all.forEach(called ->
            Due.that(called + " is told there", called.startsWith("GoneRed") || LIBRARY.contains(called))));
        recursion();
        depth();
        Due.end();
    }

    private static void look(ToolProvider javap, Class<?> c) {
        StringWriter told = new StringWriter();
        PrintWriter out = new PrintWriter(told);
        javap.run(out, out, "-p", "-c", "-cp", System.getProperty("java.class.path"), c.getName());
        String method = "";
        int methods = 0;
        for (String line : told.toString().split("\\R")) {
            Matcher head = METHOD.matcher(line);
            if (head.matches()) {
                boolean first = head.group(1).equals(c.getName()) || head.group(1).equals("static ");
                method = c.getName() + "." + (first ? "<init>" : head.group(1));
                CALLED.putIfAbsent(method, new TreeSet<>());
                methods += head.group(1).equals("static ") ? 0 : 1;
            }
            Matcher call = CALL.matcher(line);
            if (call.matches()) {
                CALLED.get(method).add((call.group(1) == null ? c.getName() : call.group(1)) + "." + call.group(2));
            }
            Matcher code = CODE.matcher(line);
            if (code.matches()) {
                allowed(method, code.group(1));
            }
        }
        Due.is("methods that javap tells of " + c, c.getDeclaredMethods().length + 1, methods);
    }

    private static void allowed(String method, String code) {
        Due.part("rules 6 and 12 in " + method);
        Due.that("no " + code, !Set.of("athrow", "monitorenter", "invokedynamic").contains(code));
        boolean makes = code.equals("new") || code.endsWith("newarray");
        Due.that(code + " in constructors alone", !makes || method.endsWith("<init>"));
    }

    private static Set<String> reached(String method) {
        Set<String> known = REACHED.get(method);
        if (known == null) {
            known = new LinkedHashSet<>();
            REACHED.put(method, known);
            ArrayDeque<String> left = new ArrayDeque<>(CALLED.getOrDefault(method, Set.of()));
            while (!left.isEmpty()) {
                String next = left.poll();
                if (known.add(next)) {
                    left.addAll(CALLED.getOrDefault(next, Set.of()));
                }
            }
        }
        return known;
    }

    private static boolean isRecursion(String one, String other) {
        return one.equals(other) || reached(one).contains(other) && reached(other).contains(one);
    }

    private static void recursion() {
        Due.part("rule 8");
        for (String method : CALLED.keySet()) {
            boolean reader = method.startsWith("GoneRed$Reader.") && READER.contains(method.substring(15));
            Due.is(method + " comes to itself", reader ? 1 : 0, reached(method).contains(method) ? 1 : 0);
        }
    }

    /** Methods that call one another count as one; a call of the library counts, too. */
    private static int depth(String method) {
        Integer known = DEPTHS.get(method);
        if (known != null) {
            return known;
        }
        int deepest = 0;
        for (String one : CALLED.getOrDefault(method, Set.of())) {
            if (!isRecursion(method, one)) {
                deepest = Math.max(deepest, depth(one));
            }
        }
        for (String like : CALLED.keySet()) {
            if (!like.equals(method) && isRecursion(method, like)) {
                for (String one : CALLED.get(like)) {
                    if (!isRecursion(method, one)) {
                        deepest = Math.max(deepest, depth(one));
                    }
                }
            }
        }
        DEPTHS.put(method, deepest + 1);
        return deepest + 1;
    }

    private static void depth() {
        Due.part("rule 11");
        for (String method : CALLED.keySet()) {
            Due.that(method + " is " + depth(method) + " deep, " + DEEPEST + " at most", depth(method) <= DEEPEST);
        }
    }
}
