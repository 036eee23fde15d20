import java.io.IOException;
import java.lang.reflect.Field;
import java.lang.reflect.Method;
import java.lang.reflect.Modifier;
import java.nio.file.Files;
import java.nio.file.Path;
import java.util.Arrays;
import java.util.Set;
import java.util.TreeSet;
import java.util.regex.Matcher;
import java.util.regex.Pattern;
import java.util.stream.Collectors;

/** The public face, as the document has it, and those rules of LANGUAGE.md that can be seen from outside. */
final class FaceTest {
    private static final String SOURCE = "src/main/java/CountsIfCounted.java";
    private static final String[] METHODS = {
        "int set(int, int, int)", "int person(int, int, int, int)", "int told(int, int)", "int feed(int)", "int text()",
        "int force(int)", "int day(int)", "int walks(int, int)", "int run(int, int, int)", "int when(int, int)",
        "int row(int, int)", "int begin(int, int, int)", "int holds(int)", "long self(int)", "int tells(int, int, int, int)",
        "int film(int, int, int)", "int drawn(int, int)", "long chance(int, int, int, int)", "int image()", "int back()",
        "int count(int)", "int sheet(int, int, int)", "int cell(int, int, int)", "int copy(int, int, int, int, int)",
        "int census(int, int, int, int)", "int taken(int, int)"};

    public static void main(String[] args) throws IOException {
        constants();
        methods();
        classesInside();
        words();
        Due.end();
    }

    private static void constants() {
        Due.is("NONE", CountsIfCounted.NONE, -1);
        Due.is("BAD", CountsIfCounted.BAD, -2);
        Due.is("STATE", CountsIfCounted.STATE, -3);
        Due.is("FULL", CountsIfCounted.FULL, -4);
        Due.is("NO", CountsIfCounted.NO, -4611686018427387904L);
        for (Field f : CountsIfCounted.class.getDeclaredFields()) {
            boolean isOfFace = Set.of("NONE", "BAD", "STATE", "FULL", "NO").contains(f.getName());
            int visible = f.getModifiers() & (Modifier.PUBLIC | Modifier.PROTECTED | Modifier.PRIVATE);
            Due.is("rule 1: " + f.getName(), visible, isOfFace ? Modifier.PUBLIC : Modifier.PRIVATE);
            Due.that("rule 5: " + f.getName(), !Modifier.isStatic(f.getModifiers()) || Modifier.isFinal(f.getModifiers()));
        }
    }

    private static void methods() {
        Set<String> due = new TreeSet<>(Arrays.asList(METHODS));
        Set<String> seen = new TreeSet<>();
        Set<String> names = new TreeSet<>();
        for (Method m : CountsIfCounted.class.getDeclaredMethods()) {
            if (Modifier.isPublic(m.getModifiers())) {
                seen.add(m.getReturnType() + " " + m.getName() + Arrays.stream(m.getParameterTypes())
                        .map(Class::getName).collect(Collectors.joining(", ", "(", ")")));
                names.add(m.getName());
            }
        }
        Due.that("the methods of the face: " + seen, due.equals(seen));
        for (Method m : CountsIfCounted.class.getDeclaredMethods()) {
            if (!Modifier.isPublic(m.getModifiers())) {
                Due.that("rule 1: " + m.getName(), Modifier.isPrivate(m.getModifiers()) && !names.contains(m.getName()));
            }
        }
        Due.is("public constructors", CountsIfCounted.class.getConstructors().length, 1);
        Due.is("constructors", CountsIfCounted.class.getDeclaredConstructors().length, 1);
        Due.that("public and final", Modifier.isFinal(CountsIfCounted.class.getModifiers()));
    }

    private static void classesInside() {
        Class<?>[] inside = CountsIfCounted.class.getDeclaredClasses();
        Due.that("rule 11: twelve classes", inside.length <= 11);
        for (Class<?> c : inside) {
            Due.that("rule 2: " + c, Modifier.isStatic(c.getModifiers()) && Modifier.isPrivate(c.getModifiers()));
            long fields = Arrays.stream(c.getDeclaredFields()).filter(f -> !Modifier.isStatic(f.getModifiers())).count();
            Due.that("rule 11: fields of " + c, fields <= 20);
            for (Method m : c.getDeclaredMethods()) {
                Due.that("rule 11: parameters of " + m, m.getParameterCount() <= 7);
                Due.that("synthetic: " + m, !m.isSynthetic());
                Due.that("rule 1: the name of " + m, Arrays.stream(METHODS).noneMatch(f -> f.contains(" " + m.getName() + "(")));
            }
        }
    }

    /** A coarse sieve for what rules 2, 4, 6 and 13 leave out. */
    private static void words() throws IOException {
        String source = Files.readString(Path.of(SOURCE));
        String code = source.replaceAll("(?s)/\\*.*?\\*/", " ").replaceAll("//[^\n]*", " ");
        Matcher word = Pattern.compile("\\b(throw|throws|try|catch|finally|synchronized|assert|package|instanceof|yield|var|"
                + "Exact|System\\.(?!arraycopy)\\w+|Random|Thread|Object|hashCode|toString|Integer\\.(?!bitCount)\\w+)\\b|->|::"
                + "|\\w+Exact\\b").matcher(code);
        while (word.find()) {
            Due.that("LANGUAGE.md: " + word.group(), false);
        }
        Matcher brought = Pattern.compile("\\bimport\\s+([^;]*);").matcher(code);
        while (brought.find()) {
            Due.that("rule 4: " + brought.group(1), brought.group(1).equals("java.util.Arrays"));
        }
        Matcher plus = Pattern.compile("\"\\s*\\+|\\+\\s*\"").matcher(code);
        Due.that("rule 10: texts are not joined by +", !plus.find());
        Due.that("signs 1 to 127", source.chars().allMatch(c -> c > 0 && c < 128));
    }
}
