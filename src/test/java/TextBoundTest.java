import java.util.ArrayList;
import java.util.List;

/** What part 1 says of TEXTS: a test for each sentence that names a bound, a wrap-around, or what is empty or full. */
final class TextBoundTest {
    private static final String GOOD_TEXT = "counts 12 - joy * (day < 5);\njoys not good or -seen ;goes house = 3 and number + 7; ";

    public static void main(String[] args) {
        tapeOf160();
        textOf160();
        letters();
        tokensAsLongAsCanBe();
        wordBytes();
        unknownWords();
        atTheTapesEnd();
        numbersOfFour();
        everyByteBehindAOne();
        everyByteAheadOfAOne();
        blanks();
        order();
        levels();
        comparedOnce();
        wraps();
        oneOrZero();
        endsTooEarly();
        emptyTape();
        firstThatCannotStand();
        fiveOpen();
        openTillTheyEnd();
        sixTexts();
        faultEmptiesTheTape();
        names();
        countsBound();
        goesBound();
        joysBound();
        textZero();
        Due.end();
    }

    private static void reads(String text, int due) {
        CountsIfCounted x = new CountsIfCounted();
        Due.is("text of <" + text + ">", Due.textOf(x, text), due);
        Due.is("THE TAPE behind <" + text + ">", x.count(4), 0);
        Due.is("TEXTS behind <" + text + ">", x.count(3), due == 1 ? 2 : 1);
    }

    private static void readsE(String e, int fault) {
        reads("counts " + e + ";joys 1;goes 1;", fault < 0 ? 1 : -100 - 7 - fault);
    }

    /** The value of an E, by where one AT 2 with JOY 40 and NUMBER 3 GOES. */
    private static void value(String e, int due) {
        CountsIfCounted x = Due.under("counts 0;joys 0;goes " + e + ";");
        x.person(0, 3, 40, 2);
        Due.is("goes " + e, x.told(0, 9), 1000 + due);
    }

    // ---- the tape, tokens

    private static void tapeOf160() {
        Due.sentence("THE TAPE (160 bytes at most)");
        CountsIfCounted x = new CountsIfCounted();
        Due.is("none at first", x.count(4), 0);
        for (int i = 1; i <= 160; i++) {
            Due.is("byte " + i, x.feed(' '), i);
        }
        Due.is("one more", x.feed(' '), -4);
        Due.is("160", x.count(4), 160);
        Due.is("160 blanks end too early", x.text(), -260);
        Due.is("none", x.count(4), 0);
        Due.is("one again", x.feed(' '), 1);
    }

    private static void textOf160() {
        Due.sentence("THE TAPE (160 bytes at most)");
        String shortest = "counts1;joys1;goes1;";
        for (int size : new int[] {159, 160}) {
            reads(" ".repeat(size - shortest.length()) + shortest, 1);
            reads(shortest + "\n".repeat(size - shortest.length()), 1);
            reads(shortest + "\n".repeat(size - shortest.length() - 1) + "1", -100 - size + 1);
        }
        String sums = "1+".repeat(70) + "1";
        CountsIfCounted x = Due.under("counts" + sums + ";joys1;goes1;");
        x.person(0, 0, 0, 0);
        Due.is("a long sum", x.told(0, 8), 71);
        reads("counts1;joys1;goes" + "1*".repeat(70) + "7;", 1);
        reads("counts1;joys1;goes1" + "<1)".repeat(47), -100 - 21);
    }

    private static void letters() {
        Due.sentence("A byte (0 .. 255) comes behind THE TAPE: how many it has.");
        CountsIfCounted x = new CountsIfCounted();
        int[] bytes = {-1, 0, 1, 254, 255, 256};
        int size = 0;
        for (int letter : bytes) {
            boolean isByte = letter >= 0 && letter <= 255;
            size += isByte ? 1 : 0;
            Due.is("byte " + letter, x.feed(letter), isByte ? size : -2);
        }
        Due.is("4", x.count(4), 4);
    }

    private static void tokensAsLongAsCanBe() {
        Due.sentence("TOKENS, each as long as can be");
        readsE("joyjoy", 0);
        readsE("joys", 0);
        readsE("notjoy", 0);
        readsE("1 orjoy", 2);
        readsE("1 andnot 1", 2);
        readsE("joy1", 3);
        readsE("1joy", 1);
        readsE("1or 1", -1);
        readsE("1or1and1", -1);
        readsE("not1", -1);
        readsE("12 34", 3);
        readsE("123456789", 0);
        reads("counts1joys1;", -107);
        reads("countsjoy;", -100);
    }

    private static void wordBytes() {
        Due.sentence("WORDS (a .. z)");
        readsE("joya", 0);
        readsE("joyz", 0);
        readsE("joy`", 3);
        readsE("joy{", 3);
        readsE("joyA", 3);
        readsE("joyZ", 3);
        readsE("JOY", 0);
        readsE("a", 0);
        readsE("z", 0);
    }

    private static void unknownWords() {
        Due.sentence("a WORD that is neither KEY nor NAME");
        for (String name : new String[] {"joy", "house", "number", "day", "good", "seen"}) {
            readsE(name, -1);
            for (String other : others(name)) {
                readsE(other, 0);
                readsE("1 + " + other, 4);
            }
        }
        for (String key : new String[] {"or", "and"}) {
            readsE("1 " + key + " 1", -1);
            for (String other : others(key)) {
                readsE("1 " + other + " 1", 2);
            }
        }
        for (String other : others("not")) {
            readsE(other + " 1", 0);
        }
        for (String other : others("counts")) {
            reads(other + " 1;joys 1;goes 1;", -100);
        }
        for (String other : others("joys")) {
            reads("counts 1;" + other + " 1;goes 1;", -109);
        }
        for (String other : others("goes")) {
            reads("counts 1;joys 1;" + other + " 1;", -116);
        }
    }

    /** WORDS with one letter more, less, or another one. */
    private static List<String> others(String word) {
        List<String> others = new ArrayList<>(List.of(word + "s", word + "a", "a" + word, word.substring(1), "xx"));
        for (int i = 0; i < word.length(); i++) {
            others.add(word.substring(0, i) + "q" + word.substring(i + 1));
            others.add(word.substring(0, i) + word.substring(i, i + 1) + word.substring(i));
        }
        return others;
    }

    /** What stood on THE TAPE ahead of it is gone, and behind its last byte there is nothing. */
    private static void atTheTapesEnd() {
        Due.sentence("(the text's size, if it ends too early)");
        String shortest = "counts1;joys1;goes";
        for (String last : new String[] {"joy", "1", "-", "1<", "(1)", "1 ", "not"}) {
            for (char old : new char[] {'s', '7', ' ', ';', '@'}) {
                CountsIfCounted x = new CountsIfCounted();
                Due.textOf(x, String.valueOf(old).repeat(160));
                int size = shortest.length() + 1 + last.length();
                Due.is(last + " where " + old + " was", Due.textOf(x, shortest + " " + last), -100 - size);
            }
            reads(shortest + " ".repeat(160 - shortest.length() - last.length()) + last, -260);
        }
    }

    private static void numbersOfFour() {
        Due.sentence("NUMBERS (as many digits as stand there, 4 at most)");
        String[] fit = {"0", "9", "00", "10", "99", "000", "999", "0000", "0009", "9000", "9999"};
        for (String number : fit) {
            int due = Math.min(99, Integer.parseInt(number));
            value(number, due);
            value(number + " - " + Integer.parseInt(number), 0);
        }
        for (String number : new String[] {"00000", "10000", "99999", "000001", "1".repeat(40)}) {
            readsE(number, 0);
            readsE("1 + " + number, 4);
            readsE("(" + number + ")", 1);
        }
        readsE("1:", 1);
        readsE("1/", 1);
    }

    private static void everyByteBehindAOne() {
        Due.sentence("SIGNS ( ) ; + - * < = ; blanks (32, 10) may stand between.");
        for (int letter = 0; letter <= 255; letter++) {
            char c = (char) letter;
            boolean fits = c == ' ' || c == '\n' || c >= '0' && c <= '9';
            boolean faultBehind = "+-*<=;".indexOf(c) >= 0;
            readsE("1" + c, fits ? -1 : faultBehind ? 2 : 1);
        }
    }

    private static void everyByteAheadOfAOne() {
        Due.sentence("also of a byte that begins none");
        for (int letter = 0; letter <= 255; letter++) {
            char c = (char) letter;
            boolean fits = c == ' ' || c == '\n' || c == '-' || c >= '0' && c <= '9';
            readsE(c + "1", fits ? -1 : c == '(' ? 2 : 0);
            reads(c + "counts 1;joys 1;goes 1;", c == ' ' || c == '\n' ? 1 : -100);
            reads("counts 1;joys 1;goes 1;" + c, c == ' ' || c == '\n' ? 1 : -123);
        }
    }

    private static void blanks() {
        Due.sentence("blanks (32, 10) may stand between");
        reads("counts1<joy;joys(1);goes-1;", 1);
        reads(" \n counts \n 1 \n < \n joy \n ; \n joys \n ( \n 1 \n ) \n ; \n goes \n - \n 1 \n ; \n ", 1);
        readsE("jo y", 0);
        readsE("1 1", 2);
        reads("cou nts 1;", -100);
        for (int letter : new int[] {0, 9, 11, 12, 13, 31, 33, 160}) {
            readsE("1 " + (char) letter, 2);
        }
    }

    // ---- the grammar

    private static void order() {
        Due.sentence("TEXT: counts E ; joys E ; goes E ;");
        reads("counts 1;joys 2;goes 3;", 1);
        reads("joys 2;counts 1;goes 3;", -100);
        reads("counts 1;counts 2;goes 3;", -109);
        reads("counts 1;goes 2;joys 3;", -109);
        reads("counts 1;joys 2;joys 3;", -116);
        reads("counts 1;joys 2;", -116);
        reads("counts 1;joys 2;goes 3", -122);
        reads("counts 1;joys 2;goes 3;goes 3;", -123);
        reads("counts ;joys 2;goes 3;", -107);
        reads("counts 1 joys 2;goes 3;", -109);
        reads(";counts 1;joys 2;goes 3;", -100);
        CountsIfCounted x = Due.under("counts 7;joys 20;goes 3;");
        x.person(0, 0, 0, 0);
        Due.is("counts", x.told(0, 8), 7);
        Due.is("goes", x.told(0, 9), 1003);
        x.day(0);
        Due.is("joys", x.told(0, 4), 20);
    }

    private static void levels() {
        Due.sentence("E: AND { or AND }. AND: NOT { and NOT }. NOT: not NOT, or SUM, perhaps < or = and a SUM.");
        value("1 or 1 and 0", 1);
        value("not 0 and 0", 0);
        value("not 1 or 1", 1);
        value("not 2 < 1", 1);
        value("not not 2 < 1", 0);
        value("1 + 1 = 2", 1);
        value("3 - 1 < 2", 0);
        value("0 or 0 or 0 or 2", 1);
        value("3 and 3 and 3 and 0", 0);
        readsE("1 + not 1", 4);
        readsE("1 < not 1", 4);
        readsE("1 * not 1", 4);
        readsE("- not 1", 2);
        readsE("1 and or 1", 6);
        readsE("1 and", 5);
        readsE("or 1", 0);
        readsE("not", 3);
        readsE("+ 1", 0);
        readsE("* 1", 0);
        readsE("< 1", 0);
        readsE("1 + + 1", 4);
        readsE("1 * * 1", 4);
        readsE("1 + - 1", -1);
        readsE("1 * - 1", -1);
        readsE("1 < - 1", -1);
        readsE("()", 1);
        readsE("(1", 2);
        readsE("1)", 1);
        readsE("(1;)", 2);
    }

    private static void comparedOnce() {
        Due.sentence("or SUM, perhaps < or = and a SUM");
        for (String one : new String[] {"<", "="}) {
            for (String other : new String[] {"<", "="}) {
                readsE("1" + one + "2" + other + "3", 3);
                readsE("(1" + one + "2)" + other + "3", -1);
                readsE("1" + one + "(2" + other + "3)", -1);
                readsE("1" + one + other + "3", 2);
                readsE("1" + one + "2 and 1" + other + "3", -1);
            }
        }
    }

    private static void wraps() {
        Due.sentence("An E is an int (32 bits, wrapping)");
        String least = "8192*8192*32";
        value(least + " < 0", 1);
        value(least + " - 1 < 0", 0);
        value(least + " - 1 = " + least + " + 9999*0 - 1", 1);
        value(least + " - 1 + 1 = " + least, 1);
        value("-(" + least + ") = " + least, 1);
        value("-(" + least + ") < 0", 1);
        value("0 - " + least + " < 0", 1);
        value(least + " + " + least, 0);
        value(least + " * 2 + 5", 5);
        value("-(" + least + " - 1) < 0", 1);
        value("8192*8192*64", 0);
        value(least, -99);
        value(least + " - 1", 99);
        value("9999*9999*9999 = " + "9999*9999*9999", 1);
        value("9999*9999*9999 < 0", 9999 * 9999 * 9999 < 0 ? 1 : 0);
        value(least + " < " + least + " - 1", 1);
        value(least + " - 1 < " + least, 0);
        value("not " + least, 0);
    }

    private static void oneOrZero() {
        Due.sentence("of or, and, not, <, = 1 or 0 (what is not 0 is true)");
        int[] values = {-99, -1, 0, 1, 2, 99};
        for (int a : values) {
            value("not " + a, a == 0 ? 1 : 0);
            value("not not " + a, a != 0 ? 1 : 0);
            for (int b : values) {
                value(a + " or " + b, a != 0 || b != 0 ? 1 : 0);
                value(a + " and " + b, a != 0 && b != 0 ? 1 : 0);
                value(a + " < " + b, a < b ? 1 : 0);
                value(a + " = " + b, a == b ? 1 : 0);
            }
        }
    }

    // ---- faults

    private static void endsTooEarly() {
        Due.sentence("(the text's size, if it ends too early)");
        int start = -1;
        for (int size = 0; size < GOOD_TEXT.length() - 1; size++) {
            boolean isLetter = size > 0 && Character.isLetter(GOOD_TEXT.charAt(size - 1));
            start = !isLetter ? -1 : start < 0 ? size - 1 : start;
            boolean cutsWord = isLetter && Character.isLetter(GOOD_TEXT.charAt(size));
            reads(GOOD_TEXT.substring(0, size), -100 - (cutsWord ? start : size));
            if (!cutsWord) {
                reads(GOOD_TEXT.substring(0, size) + " \n", -100 - size - 2);
            }
        }
        reads(GOOD_TEXT.substring(0, GOOD_TEXT.length() - 1), 1);
        reads(GOOD_TEXT, 1);
    }

    private static void emptyTape() {
        Due.sentence("(the text's size, if it ends too early)");
        reads("", -100);
        reads(" ", -101);
        reads("\n\n", -102);
    }

    private static void firstThatCannotStand() {
        Due.sentence("FAULT: the place of the first byte of the first TOKEN that can't stand there");
        readsE("1 2 @", 2);
        readsE("1 @ 2 3", 2);
        readsE("   joy   house", 9);
        readsE("12345 @", 0);
        readsE("1 ) 12345", 2);
        readsE("nott", 0);
        readsE("no", 0);
        readsE("an 1", 0);
        readsE("1 andd 1", 2);
        readsE("goods", 0);
        readsE("se", 0);
        readsE("seenn", 0);
        readsE("housee", 0);
        readsE("numbe", 0);
        readsE("counts", 0);
        readsE("goes", 0);
        reads("count 1;joys 1;goes 1;", -100);
        reads("countss 1;joys 1;goes 1;", -100);
        reads("counts 1;joy 1;goes 1;", -109);
        reads("counts 1;joys 1;go 1;", -116);
        reads("  \n counts 1; x", -114);
        for (String bad : new String[] {"@", "12345", "word", ")", "*", ";", "and"}) {
            readsE("(1 + 2) * (3 + " + bad, 15);
        }
    }

    /** All rows of ( and - and not that may stand ahead of a ONE. */
    private static void fiveOpen() {
        Due.sentence("a ( , a not, a - ahead of a ONE while 5 of these are open");
        List<String> rows = rows(5);
        Due.is("rows of 5", rows.size(), countRows(5));
        for (String row : rows) {
            readsE(row + "1" + closed(row), -1);
            readsE(row + "1" + closed(row) + " and " + row + "1" + closed(row), -1);
            readsE(row + "(1)" + closed(row), row.length());
            readsE(row + "-1" + closed(row), row.length());
            if (!row.endsWith("-")) {
                readsE(row + "not 1" + closed(row), row.length());
            }
        }
        for (String row : rows(4)) {
            readsE(row + "(1)" + closed(row), -1);
            readsE(row + "-1" + closed(row), -1);
            if (!row.endsWith("-")) {
                readsE(row + "not 1" + closed(row), -1);
            }
        }
    }

    private static int countRows(int n) {
        int behindMinus = 0;
        int others = 1;
        for (int i = 0; i < n; i++) {
            int all = behindMinus + others;
            others = others * 2 + behindMinus;
            behindMinus = all;
        }
        return behindMinus + others;
    }

    private static List<String> rows(int n) {
        List<String> rows = List.of("");
        for (int i = 0; i < n; i++) {
            List<String> longer = new ArrayList<>();
            for (String row : rows) {
                longer.add(row + "(");
                longer.add(row + "-");
                if (!row.endsWith("-")) {
                    longer.add(row + "not ");
                }
            }
            rows = longer;
        }
        return rows;
    }

    private static String closed(String row) {
        return ")".repeat((int) row.chars().filter(c -> c == '(').count());
    }

    private static void openTillTheyEnd() {
        Due.sentence("(a ( till its ) , not and - till what they belong to ends)");
        readsE("(((((1)))))+(((((1)))))", -1);
        readsE("((((" + "(1)+".repeat(8) + "(1)))))", -1);
        readsE("((((" + "(1)+".repeat(8) + "((1))))))", 37);
        readsE("-----1+-----1", -1);
        readsE("-----1------1", -1);
        readsE("-----1-------1", 12);
        readsE("((((-1-1-1-1))))", -1);
        readsE("((((-1--1--1))))", -1);
        readsE("((((-1---1))))", 8);
        readsE("((((-(1", 5);
        readsE("((((-1*(1", 9);
        readsE("not not not not not 1 or not 1", -1);
        readsE("not not not not not 1 < (1)", 24);
        readsE("not not not not not 1 + -1", 24);
        readsE("not not not not 1 + -1 < (2) and (1)", -1);
        readsE("((((not 1 and not 1 or not 1))))", -1);
        readsE("((((not 1 and not not 1))))", 18);
        readsE("not (1) + (((1)))", -1);
        readsE("not (1) + ((((1))))", -1);
        readsE("not (1) + (((((1)))))", 14);
        readsE("- (1) + (((((1)))))", -1);
        readsE("- (1) * (((((1)))))", -1);
        readsE("-((((1))))*-((((1))))", -1);
        readsE("- - (1 - - 1) - - - - - - 1", -1);
    }

    // ---- texts, names, bounds

    private static void sixTexts() {
        Due.sentence("There are 6 TEXTS at most, TEXT 0 with them.");
        CountsIfCounted x = new CountsIfCounted();
        Due.is("TEXT 0", x.count(3), 1);
        for (int i = 1; i <= 5; i++) {
            Due.is("none such yet", x.force(i), -2);
            Due.is("a TEXT", Due.textOf(x, "counts " + i + ";joys 0;goes 0;"), i);
            Due.is("how many", x.count(3), i + 1);
        }
        Due.is("a seventh", Due.textOf(x, "counts 6;joys 0;goes 0;"), -4);
        Due.is("THE TAPE stays", x.count(4), 23);
        Due.is("how many", x.count(3), 6);
        x.person(0, 0, 0, 0);
        for (int i = 5; i >= 0; i--) {
            x.force(i);
            Due.is("TEXT " + i + " is as it was", x.told(0, 8), i == 0 ? 12 : i);
        }
        Due.is("none such", x.force(6), -2);
        Due.is("none such", x.force(-1), -2);
    }

    private static void faultEmptiesTheTape() {
        Due.sentence("THE TAPE, which is empty then (by a FAULT, too), is a TEXT: its number; -100 less the place of its FAULT.");
        CountsIfCounted x = new CountsIfCounted();
        for (int i = 0; i < 9; i++) {
            Due.is("a FAULT", Due.textOf(x, "counts 1;joys 1;"), -116);
            Due.is("THE TAPE", x.count(4), 0);
            Due.is("no TEXT more", x.count(3), 1);
            Due.is("THE RULE", x.count(5), 0);
        }
        Due.is("a TEXT", Due.textOf(x, "counts 1;joys 1;goes 1;"), 1);
        Due.is("THE TAPE", x.count(4), 0);
        Due.is("THE RULE stays", x.count(5), 0);
        Due.is("nothing of it is left", x.text(), -100);
    }

    private static void names() {
        Due.sentence("good: how many HOUSES are GOOD; seen: how often it has SEEN him");
        CountsIfCounted x = Due.under("counts good + 10 * (seen = 99) + 20 * (joy = 99) + 40 * (number = 9);joys 0;"
                + "goes day * (house = 7);");
        x.person(0, 9, 99, 7);
        x.person(0, 0, 0, 0);
        x.set(6, 0, 99);
        for (int good = 0; good <= 255; good = good * 2 + 1) {
            x.set(2, 0, good);
            Due.is("highest", x.told(0, 8), 70 + Integer.bitCount(good));
            Due.is("least", x.told(1, 8), Integer.bitCount(good));
        }
        for (int day : new int[] {0, 1, 98, 99, 100, 999}) {
            x.set(0, 0, day);
            Due.is("DAY", x.told(0, 9), 1000 + Math.min(99, day));
            Due.is("HOUSE 0", x.told(1, 9), 1000);
        }
    }

    private static void countsBound() {
        Due.sentence("counts (0 .. 99, else the bound), joys, goes (-99 .. 99, else the bound)");
        for (int v : new int[] {-9999, -100, -99, -1, 0, 1, 98, 99, 100, 101, 9999}) {
            CountsIfCounted x = Due.under("counts " + v + ";joys 0;goes 0;");
            x.person(0, 0, 0, 0);
            x.person(2, 9, 0, 1);
            int bound = Math.max(0, Math.min(99, v));
            Due.is("counts " + v, x.told(0, 8), bound);
            Due.is("counts " + v + " by an ENEMY: bound ahead of NUMBER", x.told(1, 8), Math.max(0, bound - 9));
            x.person(1, 0, 0, 2);
            x.person(1, 0, 0, 2);
            Due.is("counts " + v + " by a TWIN: bound ahead of the quotient", x.told(2, 8), bound / 2);
        }
    }

    private static void goesBound() {
        Due.sentence("joys, goes (-99 .. 99, else the bound)");
        for (int v : new int[] {-9999, -100, -99, -98, 0, 98, 99, 100, 9999}) {
            int bound = Math.max(-99, Math.min(99, v));
            CountsIfCounted x = Due.under("counts 0;joys 0;goes " + v + ";");
            x.person(0, 0, 0, 0);
            x.person(2, 0, 0, 0);
            x.person(4, 0, 0, 0);
            Due.is("goes " + v, x.told(0, 9), 1000 + bound);
            Due.is("goes " + v + " by an ENEMY", x.told(1, 9), 1000 - bound);
            Due.is("goes " + v + " by a WIDOW", x.told(2, 9), 1000 + -bound / 2);
        }
    }

    /** Only a CHILD shows the lower bound, by its NUMBER more; the upper one is hidden by JOY's own. */
    private static void joysBound() {
        Due.sentence("joys, goes (-99 .. 99, else the bound)");
        for (int v : new int[] {-9999, -101, -100, -99, -98, -97, 0, 98, 99, 100}) {
            int bound = Math.max(-99, Math.min(99, v));
            for (int number : new int[] {0, 1, 9}) {
                CountsIfCounted x = Due.under("counts 6;joys " + v + ";goes 0;");
                x.person(3, number, 99, 0);
                x.day(0);
                int due = Math.max(0, Math.min(99, 99 + bound + number));
                Due.is("joys " + v + " by a CHILD of NUMBER " + number, x.told(0, 4), due);
            }
        }
    }

    private static void textZero() {
        Due.sentence("TEXT 0, at first THE RULE, is: counts 12 ; joys 1 ; goes 0 ;");
        CountsIfCounted x = new CountsIfCounted();
        x.person(0, 9, 98, 7);
        x.set(1, 0, 7);
        Due.is("THE RULE", x.count(5), 0);
        Due.is("counts", x.told(0, 8), 12);
        Due.is("goes", x.told(0, 9), 1000);
        x.day(0);
        Due.is("joys", x.told(0, 4), 99);
        x.day(0);
        Due.is("joys, at the bound", x.told(0, 4), 99);
    }
}
