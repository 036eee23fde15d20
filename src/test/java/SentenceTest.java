/** The sentences that name no boundary case: what is told, asked, reckoned, by its number. */
final class SentenceTest {
    public static void main(String[] args) {
        counterMakes();
        counterIsGladdened();
        counterGoes();
        sumOfTerms();
        termOfOnes();
        ones();
        names();
        tooLong();
        textOfOne();
        eachByNumbers();
        rowOfSteps();
        selfIsSum();
        toldOfHouses();
        toldOfTexts();
        drawnSteps();
        setsWhat();
        tellsWhat();
        walksWhat();
        runsWhat();
        toldWhat();
        chanceParts();
        image();
        numbers();
        hostsNumbers();
        firstRefusal();
        callsAtMost();
        Due.end();
    }

    // ---- terms

    private static void counterMakes() {
        Due.sentence("MAKES (him so many twelfths, counts telling v): COUNTER: v;");
        for (int v = 0; v <= 99; v += 9) {
            CountsIfCounted x = Due.under("counts " + v + "; joys 1; goes 0;");
            x.person(0, 9, 50, 0);
            Due.is("it MAKES", x.told(0, 8), v);
            x.day(0);
            Due.is("he was MADE", x.told(0, 11), v);
        }
    }

    private static void counterIsGladdened() {
        Due.sentence("GLADDENS (so much more JOY by it, joys telling v): COUNTER: v;");
        for (int v = -40; v <= 40; v += 8) {
            CountsIfCounted x = Due.under("counts 7; joys " + v + "; goes 0;");
            x.person(0, 9, 50, 0);
            x.day(0);
            Due.is("JOY", x.told(0, 4), 50 + v);
        }
    }

    private static void counterGoes() {
        Due.sentence("GOES (so many HOUSES on in a DAY, goes telling v): COUNTER: v;");
        for (int v = -99; v <= 99; v += 11) {
            CountsIfCounted x = Due.under("counts 7; joys 0; goes " + v + ";");
            x.person(0, 9, 50, 3);
            Due.is("it GOES", x.told(0, 9), 1000 + v);
            x.day(0);
            Due.is("it is AT", x.told(0, 5), Math.floorMod(3 + v, 8));
        }
    }

    private static void goes(String e, int due) {
        CountsIfCounted x = Due.under("counts 12; joys 1; goes " + e + ";");
        x.person(0, 3, 40, 2);
        x.set(0, 0, 11);
        x.set(2, 0, 0b1110);
        x.set(6, 0, 5);
        x.set(5, 0, 6);
        Due.is("goes " + e, x.told(0, 9), 1000 + due);
    }

    private static void sumOfTerms() {
        Due.sentence("SUM: TERM { + or - TERM }.");
        goes("1 + 2 + 3 + 4", 10);
        goes("50 - 20 - 10 - 5", 15);
        goes("50 - 20 + 10 - 5 + 1", 36);
        goes("1 + 2 * 3 - 4 * 5 + 6", -7);
    }

    private static void termOfOnes() {
        Due.sentence("TERM: ONE { * ONE }.");
        goes("2 * 3 * 4", 24);
        goes("2 * -3 * 4", -24);
        goes("2 * (3 + 4) * -(1 + 1)", -28);
        goes("joy * 0 * day", 0);
    }

    private static void ones() {
        Due.sentence("ONE: a NUMBER, a NAME, - ONE, ( E ).");
        goes("17", 17);
        goes("joy", 40);
        goes("-17", -17);
        goes("-joy", -40);
        goes("--17", 17);
        goes("-(17)", -17);
        goes("(17)", 17);
        goes("(1 or 0)", 1);
        goes("(not 0 and 2 < 3) * 9", 9);
    }

    private static void names() {
        Due.sentence("NAMES are joy house number day good seen; counts, joys, goes, or, and, not are KEYS.");
        Due.sentence("Of one of PEOPLE: joy: JOY; house: where it is; number: NUMBER; day: DAY;");
        goes("joy", 40);
        goes("house", 6);
        goes("number", 3);
        goes("day", 11);
        goes("good", 3);
        goes("seen", 5);
        for (String key : new String[] {"counts", "joys", "goes", "or", "and"}) {
            Due.is("a KEY is no NAME: " + key, Due.textOf(new CountsIfCounted(), "counts " + key + ";"), -107);
        }
        for (String name : new String[] {"joy", "house", "number", "day", "good", "seen", "or", "and", "not"}) {
            Due.is("begins no part: " + name, Due.textOf(new CountsIfCounted(), name + " 1;"), -100);
            Due.is("stands behind no ONE: " + name, Due.textOf(new CountsIfCounted(), "counts 1 " + name + ";"),
                    name.equals("or") || name.equals("and") ? -109 - name.length() : -109);
        }
    }

    private static void tooLong() {
        Due.sentence("a NUMBER that is too long");
        Due.is("4", Due.textOf(new CountsIfCounted(), "counts 1000; joys 9999; goes 0000;"), 1);
        Due.is("5", Due.textOf(new CountsIfCounted(), "counts 10000; joys 1; goes 1;"), -107);
        Due.is("5, some 0", Due.textOf(new CountsIfCounted(), "counts 1; joys 00001; goes 1;"), -115);
        Due.is("154", Due.textOf(new CountsIfCounted(), "counts" + "7".repeat(154)), -106);
    }

    private static void textOfOne() {
        Due.sentence("There are 6 TEXTS at most, TEXT 0 with them. Of one of PEOPLE: joy: JOY;");
        CountsIfCounted x = Due.under("counts number; joys 0; goes house;");
        for (int i = 0; i < 5; i++) {
            x.person(0, 2 * i, 0, 7 - i);
        }
        for (int i = 0; i < 5; i++) {
            Due.is("each by its own NUMBER", x.told(i, 8), 2 * i);
            Due.is("each by its own HOUSE", x.told(i, 9), 1007 - i);
        }
    }

    // ---- days

    private static void eachByNumbers() {
        Due.sentence("Then each of them, by numbers, has SEEN him once more");
        CountsIfCounted x = new CountsIfCounted();
        x.person(0, 0, 10, 4);
        x.person(5, 0, 20, 3);
        x.person(2, 0, 30, 4);
        x.set(1, 0, 4);
        x.day(0);
        int[] joy = {11, 20, 29};
        for (int i = 0; i < 3; i++) {
            Due.is("SEEN", x.told(i, 6), i == 1 ? 0 : 1);
            Due.is("JOY", x.told(i, 4), joy[i]);
        }
    }

    private static void rowOfSteps() {
        Due.sentence("A ROW of STEPS: DAYS, one behind the other.");
        int[] steps = {1, 1, 0, -1, -1, -1, -1, 0, 1, 1};
        CountsIfCounted x = Due.under("counts 12 * (day < 5) + seen; joys 3; goes day < 4;");
        for (int i = 0; i < 4; i++) {
            x.person(i, 1, 50, 2 * i);
        }
        Due.row(x, 0, 2, steps);
        int[] thought = {x.walks(0, 0), x.walks(0, 1), x.walks(0, 2), x.walks(0, 3)};
        for (int step : steps) {
            x.day(step);
        }
        Due.is("GOOD", thought[0], x.told(0, 2));
        Due.is("SUM", thought[1], x.told(0, 11));
        Due.is("TIMES", thought[2], x.told(0, 12));
        Due.is("AT", thought[3], x.told(0, 1));
    }

    private static void selfIsSum() {
        Due.sentence("SELF: SUM by (12 times TIMES).");
        CountsIfCounted x = Due.under("counts day + 5; joys 0; goes 0;");
        x.person(0, 0, 0, 0);
        long sum = 0;
        for (int day = 0; day < 40; day++) {
            x.day(0);
            sum += day + 5;
            Due.is("above by below is SUM by 12 times TIMES", x.self(0) * 12 * (day + 1), x.self(1) * sum);
        }
        Due.is("on the whole", x.self(0), 49);
        Due.is("on the whole", x.self(1), 24);
    }

    private static void toldOfHouses() {
        Due.sentence("HOUSES (bits) it could be AT now; HOUSES (bits) THE CLERK could be AT now");
        CountsIfCounted x = new CountsIfCounted();
        x.person(0, 0, 0, 3);
        x.set(1, 0, 3);
        Due.row(x, 0, 2, 12, 24);
        Due.is("it could be AT", x.tells(0, 0, 0, 5), 8);
        Due.is("THE CLERK could be AT", x.tells(0, 0, 0, 6), 8);
        Due.row(x, 0, 2, 0, 12, 12);
        Due.is("it could be AT", x.tells(0, 0, -1, 5), 2);
        Due.is("THE CLERK could be AT", x.tells(0, 0, -1, 6), 32);
        Due.row(x, 0, 2, 0, 0);
        Due.is("it could be AT", x.tells(0, 0, 1, 5), 255 - 16 - 32);
        Due.is("THE CLERK could be AT", x.tells(0, 0, 1, 6), 255 - 4 - 2);
    }

    private static void toldOfTexts() {
        Due.sentence("TEXTS (bits), were they THE RULE, by which all would be so.");
        CountsIfCounted x = new CountsIfCounted();
        Due.textOf(x, "counts 11 + seen; joys 0; goes 0;");
        Due.textOf(x, "counts 12; joys 0; goes day;");
        Due.textOf(x, "counts 12 - (day = 2); joys 9; goes 0;");
        x.person(0, 0, 0, 0);
        Due.row(x, 0, 2, 11, 23, 36);
        Due.is("11, 12, 13", x.tells(0, 0, 0, 7), 2);
        Due.row(x, 0, 2, 12, 24);
        Due.is("12, 12", x.tells(0, 0, 0, 7), 1 + 4 + 8);
        Due.row(x, 0, 2, 12, 24, 36);
        Due.is("12, 12, 12", x.tells(0, 0, 0, 7), 1);
        Due.row(x, 0, 2, 12, 24, 24);
        Due.is("12, 12, 0", x.tells(0, 0, 0, 7), 4);
        Due.row(x, 0, 2, 12, 24, 35);
        Due.is("12, 12, 11", x.tells(0, 0, 0, 7), 8);
        Due.row(x, 0, 2, 12, 24, 37);
        Due.is("by none", x.tells(0, 0, 0, 7), 0);
    }

    private static void drawnSteps() {
        Due.sentence("by STEP (z >>> 9) % 3 less 1, z being z * 1103515245 + 12345 (an int; SEED at first) anew for each:");
        for (int seed = -20; seed <= 20; seed++) {
            CountsIfCounted x = new CountsIfCounted();
            CountsIfCounted y = new CountsIfCounted();
            for (int house = 0; house < 5; house++) {
                x.person(0, 0, 0, 2 * house % 7);
                y.person(0, 0, 0, 2 * house % 7);
            }
            int z = seed;
            for (int n = 1; n <= 40; n++) {
                z = z * 1103515245 + 12345;
                y.day((z >>> 9) % 3 - 1);
                Due.is("DRAWN by " + seed + ", " + n, x.drawn(seed, n), y.count(1));
            }
        }
    }

    // ---- what is asked, by its number

    private static void setsWhat() {
        Due.sentence("DAY (what 0; of does not matter), where THE CLERK is AT (1; nor), GOOD (2; nor; bits), NUMBER (3), "
                + "JOY (4), where one is AT (5), SEEN (6)");
        CountsIfCounted x = new CountsIfCounted();
        x.person(2, 1, 2, 3);
        int[] was = {0, 0, 0, 1, 2, 3, 0};
        int[] v = {777, 5, 0b1010, 9, 88, 6, 44};
        for (int what = 0; what <= 6; what++) {
            Due.is("what it was: " + what, x.set(what, 0, v[what]), was[what]);
        }
        Due.sentence("What 0 .. 6 as of set(), 7 KIND");
        for (int what = 0; what <= 6; what++) {
            Due.is("what it is: " + what, x.told(0, what), v[what]);
        }
        Due.is("KIND", x.told(0, 7), 2);
    }

    private static void toldWhat() {
        Due.sentence("8 how many twelfths it MAKES him, 9 GOES (1000 more) of one of PEOPLE; 10 who is AT a HOUSE (bits), "
                + "11 SUM (of does not matter)");
        CountsIfCounted x = Due.under("counts 12; joys 0; goes 2;");
        x.person(0, 4, 0, 0);
        x.person(2, 4, 0, 0);
        Due.is("it MAKES", x.told(1, 8), 8);
        Due.is("it GOES", x.told(1, 9), 998);
        Due.is("who is AT 0", x.told(0, 10), 3);
        x.day(0);
        Due.is("who is AT 0", x.told(0, 10), 0);
        Due.is("who is AT 2", x.told(2, 10), 1);
        Due.is("who is AT 6", x.told(6, 10), 2);
        for (int of : new int[] {0, 1, 2, -1, Integer.MAX_VALUE, Integer.MIN_VALUE}) {
            Due.is("SUM", x.told(of, 11), 20);
            Due.is("TIMES", x.told(of, 12), 2);
        }
    }

    private static void walksWhat() {
        Due.sentence("GOOD then (what 0; bits), SUM (1), TIMES (2), where THE CLERK is AT (3).");
        CountsIfCounted x = new CountsIfCounted();
        x.person(0, 0, 0, 7);
        x.person(0, 0, 0, 6);
        x.person(2, 5, 0, 5);
        Due.row(x, 2, 0, -1, -1, -1);
        int[] due = {0b11000000, 31, 3, 5};
        for (int what = 0; what <= 3; what++) {
            Due.is("walks, what " + what, x.walks(2, what), due[what]);
        }
    }

    private static void runsWhat() {
        Due.sentence("n DAYS by a STEP: GOOD (what 0; bits), SUM (1), where one numbered what less 10 is AT (10 ..)");
        CountsIfCounted x = Due.under("counts 12; joys 5; goes 1;");
        x.person(0, 0, 10, 0);
        x.person(2, 0, 10, 4);
        x.set(1, 0, 7);
        Due.is("GOOD", x.run(3, 1, 0), 0b111);
        Due.is("SUM", x.run(3, 1, 1), 12 + 12 + 24);
        Due.is("the first is AT", x.run(3, 1, 10), 3);
        Due.is("the second is AT", x.run(3, 1, 11), 1);
        Due.is("the first one's JOY", x.run(3, 1, 20), 25);
        Due.is("the second one's JOY", x.run(3, 1, 21), 5);
    }

    private static void tellsWhat() {
        Due.sentence("TOLD of one, by a STEP: the first that is otherwise (what 0; NONE), KINDS (1), NUMBERS (2), JOYS: how "
                + "many (3), the least (4; NONE), HOUSES it could be AT (5), THE CLERK could be AT (6), TEXTS (7).");
        CountsIfCounted x = new CountsIfCounted();
        Due.textOf(x, "counts joy; joys 0; goes 0;");
        x.person(2, 3, 9, 2);
        x.set(1, 0, 2);
        Due.row(x, 0, 0, 9, 18, 27, 36);
        int[] due = {-1, 1 << 2, 1 << 3, 100, 0, 1 << 2, 1 << 2, 1};
        for (int what = 0; what <= 7; what++) {
            Due.is("tells, what " + what, x.tells(0, 0, 0, what), due[what]);
        }
        x.force(1);
        int[] byJoy = {0, 3, 1, 1, 12, 0, 0, 1};
        for (int what = 0; what <= 7; what++) {
            Due.is("tells, by joy, what " + what, x.tells(0, 0, 0, what), byJoy[what]);
        }
    }

    private static void chanceParts() {
        Due.sentence("IN m seeds: part 0 above, 1 below the line");
        CountsIfCounted x = new CountsIfCounted();
        Due.is("all of 20: 1", x.chance(3, 20, 0, 0), 1);
        Due.is("by 1", x.chance(3, 20, 0, 1), 1);
        Due.is("none of 20: 0", x.chance(3, 20, 1, 0), 0);
        Due.is("by 1", x.chance(3, 20, 1, 1), 1);
    }

    private static void image() {
        Due.sentence("AN IMAGE is kept: how many PEOPLE.");
        CountsIfCounted x = new CountsIfCounted();
        for (int i = 0; i <= 5; i++) {
            Due.is("how many PEOPLE", x.image(), i);
            Due.is("how many PEOPLE", x.back(), i);
            x.person(i, 0, 0, 0);
        }
    }

    // ---- refusals

    private static void numbers() {
        Due.sentence("NONE is -1; NO, where a long is answered, -4611686018427387904.");
        CountsIfCounted x = new CountsIfCounted();
        Due.is("NONE", x.when(0, 0), CountsIfCounted.NONE);
        Due.is("NONE", x.holds(1), -1);
        Due.is("NO", x.self(0), CountsIfCounted.NO);
        Due.is("NO", x.chance(0, 0, 0, 0), -4611686018427387904L);
        Due.sentence("BAD (-2: a number is none such or not as told), STATE (-3), FULL (-4)");
        Due.is("BAD", x.row(7, 0), CountsIfCounted.BAD);
        Due.is("BAD", x.force(1), -2);
        Due.is("STATE", x.back(), CountsIfCounted.STATE);
        Due.is("STATE", x.back(), -3);
        for (int i = 0; i < 5; i++) {
            x.person(0, 0, 0, 0);
        }
        Due.is("FULL", x.person(0, 0, 0, 0), CountsIfCounted.FULL);
        Due.is("FULL", x.person(0, 0, 0, 0), -4);
    }

    private static void hostsNumbers() {
        Due.sentence("the host's: -11 nothing where something is asked, -12 a place outside, -13 a thing of another sort or "
                + "KIND, -14 a size below 0.");
        CountsIfCounted x = new CountsIfCounted();
        Due.is("nothing: a SHEET", x.cell(0, 0, 0), -11);
        Due.is("nothing: one of PEOPLE", x.taken(0, 0), -11);
        x.sheet(0, 0, 3);
        x.sheet(1, 1, 3);
        x.person(0, 0, 0, 0);
        Due.is("outside: an item", x.cell(0, 3, 0), -12);
        Due.is("outside: some of n", x.copy(0, 1, 0, 0, 3), -12);
        Due.is("outside: one of four", x.census(0, 0, 0, 1), -12);
        Due.is("of another sort", x.copy(0, 0, 1, 0, 1), -13);
        Due.is("of another sort", x.census(0, 2, 0, 1), -13);
        Due.is("of another KIND", x.taken(0, 1), -13);
        Due.is("a size below 0", x.sheet(0, 0, -1), -14);
    }

    private static void firstRefusal() {
        Due.sentence("Refusals, the first that the call's words name; they change nothing:");
        CountsIfCounted x = new CountsIfCounted();
        Due.is("BAD ahead of -11", x.walks(4, 4), -2);
        Due.is("BAD ahead of -11", x.tells(0, 0, 0, 0), -2);
        Due.is("BAD ahead of -14", x.sheet(4, 0, -1), -2);
        Due.is("BAD ahead of -11", x.copy(0, 0, 4, 0, 0), -2);
        Due.is("-11 ahead of -12", x.copy(0, -1, 1, -1, -1), -11);
        x.sheet(0, 0, 1);
        x.sheet(1, 1, 1);
        Due.is("-13 ahead of -12", x.copy(0, -1, 1, -1, -1), -13);
        Due.is("-13 ahead of -12", x.census(0, 1, -1, 1), -13);
        Due.is("BAD ahead of -13", x.census(0, 1, -1, 6), -2);
        Due.is("BAD ahead of -11", x.taken(0, 6), -2);
        x.set(0, 0, 999);
        Due.is("BAD ahead of STATE", x.day(2), -2);
        Due.is("STATE", x.day(1), -3);
    }

    private static void callsAtMost() {
        Due.sentence("An object is used for at most 512 calls after it has been made; what later calls answer is free.");
        CountsIfCounted x = new CountsIfCounted();
        x.person(5, 3, 0, 0);
        for (int day = 1; day <= 510; day++) {
            x.day(0);
        }
        Due.is("the 512th: SUM", x.told(0, 11), sumOfBlind());
    }

    /** It MAKES him 0 three times; then every fifth DAY it is 4 HOUSES on, and 5 DAYS later back again. */
    private static int sumOfBlind() {
        int house = 0;
        int seen = 0;
        int sum = 0;
        for (int day = 0; day < 510; day++) {
            sum += house == 0 && seen >= 3 ? 12 : 0;
            seen += house == 0 ? 1 : 0;
            house = day % 5 == 0 ? 4 - house : house;
        }
        return sum;
    }
}
