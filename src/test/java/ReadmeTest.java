import java.io.File;
import java.io.IOException;
import java.lang.reflect.Method;
import java.lang.reflect.Modifier;
import java.nio.file.Files;
import java.nio.file.Path;

/** README.md: its examples, word by word, and that it names each call, each number below 0, each test. */
final class ReadmeTest {
    private static String page;

    public static void main(String[] args) throws IOException {
        page = Files.readString(Path.of("README.md"));
        namesCalls();
        namesNumbers();
        namesTests();
        examples();
        Due.end();
    }

    private static void says(String words) {
        Due.that("README.md says: " + words, page.contains(words));
    }

    private static void namesCalls() {
        for (Method m : CountsIfCounted.class.getDeclaredMethods()) {
            if (Modifier.isPublic(m.getModifiers())) {
                says("`" + m.getName() + "`");
            }
        }
    }

    private static void namesNumbers() {
        says("| -1 | `NONE` |");
        says("| -2 | `BAD` |");
        says("| -3 | `STATE` |");
        says("| -4 | `FULL` |");
        for (int number = -14; number <= -11; number++) {
            says("| " + number + " | | the host's: ");
        }
        says("| -4611686018427387904 | `NO` |");
    }

    private static void namesTests() {
        for (String file : new File("src/test/java").list()) {
            says("`" + file.replace(".java", "") + "`");
        }
    }

    private static void example(String words, long got, long due) {
        says(words);
        Due.is(words, got, due);
    }

    private static void examples() {
        CountsIfCounted x = new CountsIfCounted();
        example("x.person(0, 0, 30, 0);     // a COUNTER", x.person(0, 0, 30, 0), 0);
        example("x.person(2, 4, 60, 1);     // an ENEMY", x.person(2, 4, 60, 1), 1);
        example("x.day(0);                  // a DAY by STEP 0: answers the GOOD HOUSES as bits, 1", x.day(0), 1);
        example("x.day(1);                  // on to HOUSE 1: he was made 8 twelfths there", x.day(1), 1);
        example("x.told(0, 11);             // SUM: 20", x.told(0, 11), 20);
        example("x.self(0);                 // what he is on the whole, above the line: 5", x.self(0), 5);
        example("x.self(1);                 // and below: 6", x.self(1), 6);
        example("x.run(8, 1, 1);            // SUM behind 8 DAYS more by STEP 1, in thought: 40", x.run(8, 1, 1), 40);
        example("x.holds(0);                // who holds out where the clerk is: the ENEMY, bit 1, so 2", x.holds(0), 2);
        String rule = "counts 12 - joy * (day < 5); joys 1; goes good;";
        says(rule);
        example("int text = x.text();       // its number, 1", Due.textOf(x, rule), 1);
        example("x.force(text);             // which was THE RULE: 0", x.force(1), 0);
        example("x.sheet(0, 0, 3);          // SHEET 0", x.sheet(0, 0, 3), 1);
        example("x.cell(0, 1, 1);           // its item 1", x.cell(0, 1, 1), 1);
        example("x.walks(0, 3);             // where the clerk is behind STEPS 0, 1, 0, in thought: 2", x.walks(0, 3), 2);
        example("x.film(1, 1, 20);          // SHEET 1", x.film(1, 1, 20), 20);
        Due.that("it could be of its own KIND", (x.tells(1, 1, 1, 1) & 1 << 2) != 0);
    }
}
