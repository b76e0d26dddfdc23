import java.io.IOException;
import java.lang.reflect.Constructor;
import java.lang.reflect.Field;
import java.lang.reflect.Method;
import java.lang.reflect.Modifier;
import java.nio.charset.StandardCharsets;
import java.nio.file.Files;
import java.nio.file.Path;
import java.util.ArrayList;
import java.util.Arrays;
import java.util.List;
import java.util.Set;
import java.util.TreeSet;
import java.util.regex.Pattern;

/** The face is the document's, and the source keeps to ../shared/LANGUAGE.md as far as a look at it can tell. */
public final class LanguageTest {
    private static final String FACE = "count1 feed6 text0 force1 asks5 face3 warm2 sit2 lamp2 told2 cause3 uncause0 "
        + "causeTold2 at3 red2 row2 pass1 dies1 line1 stops3 best2 latest2 adds2 turn2 stares1 where2 change1 shade2 "
        + "sets2 needs1 asked2 guilty4L judge2 whose1 began3L through3 kinds3 laws2 film3 drawn2 odds4L image0 back0 "
        + "sheet3 cell3 copy5 facesBy4 taken2";
    private static final String[] BANNED = {"throw", "throws", "try", "catch", "finally", "synchronized", "assert",
        "import", "package", "double", "float", "protected", "volatile", "transient", "native", "var", "goto",
        "System\\.out", "Object", "equals", "hashCode", "Exact", "Thread", "Runtime"};

    public static void main(String[] args) throws IOException {
        face();
        documentsFace();
        classes();
        source();
        Due.end();
    }

    private static void face() {
        Due.part("the face");
        Set<String> due = new TreeSet<>(Arrays.asList(FACE.split(" ")));
        Set<String> are = new TreeSet<>();
        Set<String> open = new TreeSet<>();
        for (Method m : GoneRed.class.getDeclaredMethods()) {
            if (Modifier.isPublic(m.getModifiers())) {
                boolean ints = Arrays.stream(m.getParameterTypes()).allMatch(t -> t == int.class);
                boolean known = m.getReturnType() == int.class || m.getReturnType() == long.class;
                Due.that(m + " of ints", ints && known && !Modifier.isStatic(m.getModifiers()));
                are.add(m.getName() + m.getParameterCount() + (m.getReturnType() == long.class ? "L" : ""));
                open.add(m.getName());
            } else {
                Due.that(m + " is private", Modifier.isPrivate(m.getModifiers()));
            }
        }
        Due.that("calls " + are, are.equals(due));
        for (Class<?> c : all()) {
            for (Method m : c.getDeclaredMethods()) {
                boolean same = open.contains(m.getName()) && !Modifier.isPublic(m.getModifiers());
                Due.that(m + " does not bear the name of a public one", !same);
            }
        }
        for (Constructor<?> c : GoneRed.class.getDeclaredConstructors()) {
            Due.that("one constructor", Modifier.isPublic(c.getModifiers()) && c.getParameterCount() == 0);
        }
        List<String> constants = new ArrayList<>();
        for (Field f : GoneRed.class.getDeclaredFields()) {
            if (!Modifier.isPrivate(f.getModifiers())) {
                Due.that(f + " is a constant", Modifier.isPublic(f.getModifiers()) && Modifier.isStatic(f.getModifiers()));
                constants.add(f.getType() + " " + f.getName());
            }
        }
        Due.that("constants " + constants,
            constants.equals(List.of("int NONE", "int BAD", "int STATE", "int FULL", "long NO")));
        Due.is("NONE", -1, GoneRed.NONE);
        Due.is("BAD", -2, GoneRed.BAD);
        Due.is("STATE", -3, GoneRed.STATE);
        Due.is("FULL", -4, GoneRed.FULL);
        Due.is("NO", -4611686018427387904L, GoneRed.NO);
        int itself = GoneRed.class.getModifiers();
        Due.that("public and final", Modifier.isPublic(itself) && Modifier.isFinal(itself));
    }

    /** Each line of it stands in the source, in its order, and no other is public. */
    private static void documentsFace() throws IOException {
        Due.part("the document's face");
        List<String> due = Doc.face();
        if (due.isEmpty()) {
            return;
        }
        List<String> are = new ArrayList<>();
        for (String line : Files.readAllLines(Path.of("src/main/java/GoneRed.java"))) {
            if (line.startsWith("public ") || line.startsWith("    public ")) {
                are.add(line.startsWith(" ") ? line.replaceFirst("\\) \\{$", ");") : line);
            }
        }
        are.add("}");
        for (int i = 0; i < Math.max(due.size(), are.size()); i++) {
            String want = i < due.size() ? due.get(i) : "no more";
            String got = i < are.size() ? are.get(i) : "no more";
            Due.that("line " + i + " (" + got + ") is " + want, want.equals(got));
        }
    }

    private static List<Class<?>> all() {
        List<Class<?>> all = new ArrayList<>(List.of(GoneRed.class.getDeclaredClasses()));
        all.add(GoneRed.class);
        return all;
    }

    private static void classes() {
        Due.part("classes");
        Due.that("some twelve classes at most", all().size() <= 12);
        for (Class<?> c : all()) {
            boolean inside = c != GoneRed.class;
            Due.that(c + " is static and private", !inside
                || Modifier.isStatic(c.getModifiers()) && Modifier.isPrivate(c.getModifiers()));
            Due.is("classes inside of " + c, inside ? 0 : all().size() - 1, c.getDeclaredClasses().length);
            int fields = 0;
            for (Field f : c.getDeclaredFields()) {
                boolean fixed = Modifier.isStatic(f.getModifiers());
                Due.that(f + " is final, if static", !fixed || Modifier.isFinal(f.getModifiers()));
                fields += fixed ? 0 : 1;
            }
            Due.that(c + " has some twenty fields at most", fields <= 20);
            for (Method m : c.getDeclaredMethods()) {
                Due.that(m + " takes seven at most", m.getParameterCount() <= 7);
            }
        }
    }

    private static void source() throws IOException {
        Due.part("the source");
        String source = Files.readString(Path.of("src/main/java/GoneRed.java"), StandardCharsets.UTF_8);
        Due.that("signs of 1 .. 127", source.chars().allMatch(c -> c >= 1 && c <= 127));
        String code = source.replaceAll("(?s)/\\*.*?\\*/", "").replaceAll("//[^\n]*", "")
            .replaceAll("\"[^\"\n]*\"", "\"\"");
        for (String word : BANNED) {
            Due.that("no " + word, !Pattern.compile("\\b" + word + "\\b").matcher(code).find());
        }
        for (String sign : new String[] {"->", "::", "@", "static {", "while (true)", "for (;;)"}) {
            Due.that("no " + sign, !code.contains(sign));
        }
        int length = 0;
        String name = "";
        for (String line : code.split("\n")) {
            length++;
            if (line.matches("    (    )?\\S.*\\) \\{")) {
                name = line;
                length = 1;
            }
            Due.that(name + " is short", length <= 60 || !line.matches("    (    )?\\}"));
        }
    }
}
