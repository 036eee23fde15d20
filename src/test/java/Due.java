import java.io.IOException;
import java.nio.file.Files;
import java.nio.file.Path;

/** What tests share: answers that are due, texts that are fed, people that come. */
final class Due {
    private static final Path DOCUMENT = Path.of("../shared/DOC.md");
    private static int wrong = 0;
    private static int asked = 0;
    private static String sentence = "";
    private static String document;

    private Due() {
    }

    static void is(String call, long got, long want) {
        asked++;
        if (got != want) {
            wrong++;
            System.out.println(sentence + call + " answered " + got + ", due is " + want);
        }
    }

    /** What is asked from here on is due by this sentence, which must stand in the document word by word. */
    static void sentence(String words) {
        sentence = "";
        that("the document says: " + words, document().isEmpty() || document().contains(words));
        sentence = "[" + words + "] ";
    }

    /** Empty where there is no document beside the project: the answers are due without it, too. */
    private static String document() {
        try {
            document = document != null ? document : Files.exists(DOCUMENT) ? Files.readString(DOCUMENT) : "";
        } catch (IOException broken) {
            throw new IllegalStateException("can't read " + DOCUMENT, broken);
        }
        return document;
    }

    static void that(String what, boolean holds) {
        is(what, holds ? 1 : 0, 1);
    }

    static int textOf(CountsIfCounted x, String bytes) {
        for (int i = 0; i < bytes.length(); i++) {
            x.feed(bytes.charAt(i));
        }
        return x.text();
    }

    /** A country under a rule of its own. */
    static CountsIfCounted under(String rule) {
        CountsIfCounted x = new CountsIfCounted();
        is("text of " + rule, textOf(x, rule), 1);
        is("force", x.force(1), 0);
        return x;
    }

    static void row(CountsIfCounted x, int sheet, int sort, int... items) {
        is("sheet", x.sheet(sheet, sort, items.length), 1);
        for (int i = 0; i < items.length; i++) {
            is("cell", x.cell(sheet, i, items[i]), 1);
        }
    }

    /** A line that tells all that can be seen of the country, to tell whether a call changed it. */
    static String all(CountsIfCounted x) {
        StringBuilder line = new StringBuilder();
        for (int what = 0; what < 6; what++) {
            line.append(x.count(what)).append(' ');
        }
        for (int what : new int[] {0, 1, 2, 11, 12}) {
            line.append(x.told(0, what)).append(' ');
        }
        for (int one = 0; one < x.count(0); one++) {
            for (int what = 3; what <= 9; what++) {
                line.append(x.told(one, what)).append(' ');
            }
        }
        return line.toString();
    }

    static void end() {
        System.out.println(asked + " asked, " + wrong + " wrong");
        if (wrong != 0 || asked == 0) {
            System.exit(1);
        }
    }
}
