import java.io.IOException;
import java.lang.reflect.Constructor;
import java.lang.reflect.Field;
import java.lang.reflect.Method;
import java.lang.reflect.Modifier;
import java.nio.file.Files;
import java.nio.file.Path;
import java.util.ArrayList;
import java.util.Arrays;
import java.util.List;
import java.util.TreeSet;
import java.util.regex.Matcher;
import java.util.regex.Pattern;

/** The class shows the document's face and nothing else, and its source keeps to what LANGUAGE.md leaves. */
public final class FaceTests {
    private static final List<String> FACE = List.of(
        "table()", "rule(int, int)", "change(int, int, int, int)", "row(int, int, int)", "mark(int, int)", "out(int, int)",
        "asOf(int, int, int)", "version(int, int, int, int)", "there(int, int)", "count(int)");
    private static final List<String> CONSTANTS = List.of("BAD", "NONE", "FULL", "LATE", "TURN");

    private static int wrong = 0;

    private static void check(String what, boolean holds) {
        if (!holds) {
            wrong++;
            System.out.println("does not hold: " + what);
        }
    }

    private static void members() {
        Class<?> c = AsOfJoins.class;
        check("the class is public and final", Modifier.isPublic(c.getModifiers()) && Modifier.isFinal(c.getModifiers()));
        TreeSet<String> shown = new TreeSet<>();
        for (Method m : c.getDeclaredMethods()) {
            String name = m.toString().replaceAll(".*AsOfJoins\\.", "").replace(",", ", ");
            if (Modifier.isPrivate(m.getModifiers())) {
                check("no private method named as a public one: " + name,
                    FACE.stream().noneMatch(f -> f.startsWith(m.getName() + "(")));
            } else {
                shown.add(name);
                check("answers an int: " + name, m.getReturnType() == int.class && !Modifier.isStatic(m.getModifiers()));
            }
        }
        check("the methods are the document's: " + shown, shown.equals(new TreeSet<>(FACE)));
        TreeSet<String> constants = new TreeSet<>();
        for (Field f : c.getDeclaredFields()) {
            if (!Modifier.isPrivate(f.getModifiers())) {
                constants.add(f.getName());
            }
            check("static fields are final: " + f, !Modifier.isStatic(f.getModifiers()) || Modifier.isFinal(f.getModifiers()));
        }
        check("the constants are the document's: " + constants, constants.equals(new TreeSet<>(CONSTANTS)));
        Constructor<?>[] made = c.getDeclaredConstructors();
        check("one public constructor", made.length == 1 && Modifier.isPublic(made[0].getModifiers()) && made[0].getParameterCount() == 0);
        for (Class<?> inside : c.getDeclaredClasses()) {
            check("classes inside are static: " + inside, Modifier.isStatic(inside.getModifiers()));
            check("classes inside are not public: " + inside, !Modifier.isPublic(inside.getModifiers()));
        }
    }

    private static void source() throws IOException {
        String text = Files.readString(Path.of("src/main/java/AsOfJoins.java"));
        String code = text.replaceAll("(?s)/\\*.*?\\*/", "").replaceAll("//[^\n]*", "");
        for (String word : List.of("throw", "throws", "try", "catch", "synchronized", "assert", "import", "package", "Object", "var")) {
            check("no word " + word, !Pattern.compile("\\b" + word + "\\b").matcher(code).find());
        }
        check("no lambda or method reference", !code.contains("->") && !code.contains("::"));
        check("no division by a name", !Pattern.compile("[/%]=?\\s*[a-z(]").matcher(code).find());
        List<String> used = new ArrayList<>();
        Matcher library = Pattern.compile("\\b(System|Math|Arrays|Integer|Long)\\.\\w+").matcher(code);
        while (library.find()) {
            used.add(library.group());
        }
        used.removeAll(Arrays.asList("Math.max", "Math.min", "System.arraycopy"));
        check("no library but what is known to be allowed: " + used, used.isEmpty());
    }

    public static void main(String[] args) throws IOException {
        members();
        source();
        System.out.println(wrong == 0 ? "the face is as due" : wrong + " things do not hold");
        if (wrong != 0) {
            System.exit(1);
        }
    }
}
