import java.io.IOException;
import java.net.URL;
import java.net.URLClassLoader;
import java.nio.file.Files;
import java.nio.file.Path;
import java.util.ArrayList;
import java.util.List;
import java.util.function.Supplier;
import java.util.regex.Matcher;
import java.util.regex.Pattern;
import java.util.stream.Stream;
import javax.tools.JavaCompiler;
import javax.tools.ToolProvider;

/** What README.md shows is so: its calls answer what is told behind them, and no test or class is left out. */
public final class ReadmeTest {
    private static final Path README = Path.of("README.md");
    /** A call that is shown with its answer, a number or the name of a constant. */
    private static final Pattern SHOWN = Pattern.compile("(?:int (\\w+) = )?(room\\.\\w+\\(.*\\)); *// (-?\\d+|[A-Z]+)\\b.*");
    private static final int FEWEST_SHOWN = 25;

    public static void main(String[] args) throws Exception {
        String readme = Files.readString(README);
        calls(readme);
        refusals(readme);
        files(readme);
        Due.end();
    }

    private static String part(String readme, String from, String to) {
        int begin = readme.indexOf("## " + from);
        int end = readme.indexOf("## " + to);
        Due.that("parts " + from + ", " + to, begin >= 0 && end > begin);
        return readme.substring(Math.max(0, begin), Math.max(0, Math.max(begin, end)));
    }

    /** All lines of Java that are shown are one program, so that they are compiled and run as they stand. */
    private static void calls(String readme) throws Exception {
        Due.part("README.md, its calls");
        List<String> told = new ArrayList<>();
        List<String> want = new ArrayList<>();
        StringBuilder body = new StringBuilder();
        for (String line : part(readme, "How to use it", "How it is built").split("\n")) {
            if (line.startsWith("    ")) {
                body.append(program(line.trim(), told, want)).append('\n');
            }
        }
        Due.that(told.size() + " calls are shown", told.size() >= FEWEST_SHOWN);
        List<?> got = answers(body.toString());
        Due.is("answers", told.size(), got.size());
        for (int i = 0; i < told.size() && i < got.size(); i++) {
            Due.that(told.get(i) + " answers " + got.get(i) + ", told is " + want.get(i),
                want.get(i).equals(String.valueOf(got.get(i))));
        }
    }

    private static String program(String line, List<String> told, List<String> want) {
        Matcher shown = SHOWN.matcher(line);
        if (!shown.matches()) {
            Due.that("told behind it is an answer: " + line, !line.contains("//"));
            return line;
        }
        String answer = shown.group(3);
        told.add(shown.group(2));
        want.add(switch (answer) {
            case "NONE" -> "" + GoneRed.NONE;
            case "BAD" -> "" + GoneRed.BAD;
            case "STATE" -> "" + GoneRed.STATE;
            case "FULL" -> "" + GoneRed.FULL;
            case "NO" -> "" + GoneRed.NO;
            default -> answer;
        });
        String name = shown.group(1);
        return name == null ? "all.add((long) " + shown.group(2) + ");"
            : "int " + name + " = " + shown.group(2) + "; all.add((long) " + name + ");";
    }

    private static List<?> answers(String body) throws Exception {
        JavaCompiler javac = ToolProvider.getSystemJavaCompiler();
        Path place = Files.createTempDirectory("readme");
        Path source = place.resolve("Shown.java");
        Files.writeString(source, "public final class Shown implements java.util.function.Supplier<Object> {\n"
            + "public Object get() {\njava.util.List<Long> all = new java.util.ArrayList<>();\n" + body + "return all;\n}\n}\n");
        int compiled = javac.run(null, null, null, "-cp", System.getProperty("java.class.path"), source.toString());
        Due.is("javac of what is shown", 0, compiled);
        if (compiled != 0) {
            return List.of();
        }
        try (URLClassLoader loader = new URLClassLoader(new URL[] {place.toUri().toURL()})) {
            Object shown = loader.loadClass("Shown").getConstructor().newInstance();
            return (List<?>) ((Supplier<?>) shown).get();
        } finally {
            Files.delete(place.resolve("Shown.class"));
            Files.delete(source);
            Files.delete(place);
        }
    }

    private static void refusals(String readme) {
        Due.part("README.md, refusals");
        String table = part(readme, "What a refused call answers", "How it is built");
        Due.that("BAD", table.contains("`BAD` (" + GoneRed.BAD + ")"));
        Due.that("STATE", table.contains("`STATE` (" + GoneRed.STATE + ")"));
        Due.that("FULL", table.contains("`FULL` (" + GoneRed.FULL + ")"));
        Due.that("NONE", table.contains("`NONE` (" + GoneRed.NONE + ")"));
    }

    private static void files(String readme) throws IOException {
        Due.part("README.md, what it names");
        try (Stream<Path> files = Files.list(Path.of("src/test/java"))) {
            files.map(f -> f.getFileName().toString().replace(".java", ""))
                .forEach(name -> Due.that(name, readme.contains("`" + name + "`") || readme.contains("`" + name + ".")));
        }
        for (Class<?> inside : GoneRed.class.getDeclaredClasses()) {
            Due.that(inside.getSimpleName(), readme.contains("`" + inside.getSimpleName() + "`"));
        }
        Matcher test = Pattern.compile("`([A-Z]\\w+Test)`").matcher(readme);
        while (test.find()) {
            Due.that(test.group(1) + " is there", Files.exists(Path.of("src/test/java/" + test.group(1) + ".java")));
        }
    }
}
