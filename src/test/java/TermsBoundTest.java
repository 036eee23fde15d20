/** The document's part 1: a test for each sentence that names a bound, a wrap-around, or what is empty or full. */
final class TermsBoundTest {
    public static void main(String[] args) {
        housesAreRound();
        goodIsASet();
        days();
        clerk();
        sumAtFirst();
        sumAtMost();
        timesAtMost();
        fivePeople();
        kinds();
        numbers();
        joys();
        seen();
        quotients();
        twin();
        enemy();
        child();
        widow();
        widowAlone();
        blind();
        makesBound();
        gladdensTwin();
        gladdensChild();
        gladdensEnemy();
        gladdensWidow();
        gladdensBlind();
        goesTwin();
        goesChild();
        goesWidow();
        goesBlind();
        Due.end();
    }

    private static CountsIfCounted with(int kind, int number, int joy, int house) {
        CountsIfCounted x = new CountsIfCounted();
        Due.is("person", x.person(kind, number, joy, house), 0);
        return x;
    }

    private static CountsIfCounted counts(String e) {
        return Due.under("counts " + e + "; joys 1; goes 0;");
    }

    // ---- houses, the clerk, people

    private static void housesAreRound() {
        Due.sentence("HOUSES 0 .. 7 round: behind 7 is 0");
        CountsIfCounted x = new CountsIfCounted();
        for (int i = 1; i <= 17; i++) {
            x.day(1);
            Due.is("THE CLERK on", x.told(0, 1), i % 8);
        }
        for (int i = 0; i <= 17; i++) {
            Due.is("THE CLERK back", x.told(0, 1), Math.floorMod(1 - i, 8));
            x.day(-1);
        }
        for (int goes : new int[] {-99, -98, -97, -96, -9, -8, -7, -1, 0, 1, 7, 8, 9, 95, 96, 99}) {
            for (int house = 0; house <= 7; house++) {
                CountsIfCounted y = Due.under("counts 0; joys 0; goes " + goes + ";");
                y.person(0, 0, 0, house);
                y.day(0);
                Due.is("one AT " + house + " who goes " + goes, y.told(0, 5), Math.floorMod(house + goes, 8));
            }
        }
    }

    private static void goodIsASet() {
        Due.sentence("GOOD ones (a set; none at first; sets of HOUSES are told as bits)");
        CountsIfCounted x = new CountsIfCounted();
        Due.is("none at first", x.told(0, 2), 0);
        Due.is("how many at first", x.count(1), 0);
        Due.is("the highest", x.set(2, 0, 255), 0);
        Due.is("all 8", x.count(1), 8);
        Due.is("one above", x.set(2, 0, 256), -2);
        Due.is("one below", x.set(2, 0, -1), -2);
        Due.is("it stays", x.told(0, 2), 255);
        Due.is("the least", x.set(2, 0, 0), 255);
        for (int house = 0; house <= 7; house++) {
            CountsIfCounted y = with(0, 0, 0, house);
            y.set(1, 0, house);
            Due.is("HOUSE " + house, y.day(0), 1 << house);
            Due.is("HOUSE " + house + " again, once in a set", y.day(0), 1 << house);
        }
    }

    private static void days() {
        Due.sentence("DAY (0 .. 999; 0 at first)");
        CountsIfCounted x = new CountsIfCounted();
        Due.is("at first", x.told(0, 0), 0);
        Due.is("the highest", x.set(0, 0, 999), 0);
        Due.is("one above", x.set(0, 0, 1000), -2);
        Due.is("one below", x.set(0, 0, -1), -2);
        Due.is("it stays", x.count(2), 999);
        Due.is("no DAY more", x.day(0), -3);
        Due.is("it stays", x.count(2), 999);
        Due.is("one ahead of the highest", x.set(0, 0, 998), 999);
        Due.is("a DAY more", x.day(0), 0);
        Due.is("the highest", x.count(2), 999);
        Due.is("the least", x.set(0, 0, 0), 999);
    }

    private static void clerk() {
        Due.sentence("THE CLERK is AT a HOUSE (0 at first)");
        CountsIfCounted x = new CountsIfCounted();
        Due.is("at first", x.told(0, 1), 0);
        Due.is("the highest", x.set(1, 0, 7), 0);
        Due.is("one above", x.set(1, 0, 8), -2);
        Due.is("one below", x.set(1, 0, -1), -2);
        Due.is("the least", x.set(1, 0, 0), 7);
    }

    private static void sumAtFirst() {
        Due.sentence("SUM: how many twelfths he was MADE, together (0 .. 99999; 0), TIMES: by how many (0 .. 9999; 0)");
        CountsIfCounted x = new CountsIfCounted();
        Due.is("SUM at first", x.told(0, 11), 0);
        Due.is("TIMES at first", x.told(0, 12), 0);
    }

    /** 202 DAYS of 495 each are 99990; behind them each MAKES its NUMBER. */
    private static void sumAtMost() {
        Due.sentence("SUM is so much more (99999 at most)");
        int[][] numbers = {{8, 0, 0, 0, 0}, {9, 0, 0, 0, 0}, {9, 1, 0, 0, 0}, {9, 9, 9, 9, 9}};
        for (int[] last : numbers) {
            CountsIfCounted x = counts("99 * (day < 202) + number * (201 < day)");
            int more = 0;
            for (int number : last) {
                x.person(0, number, 0, 0);
                more += number;
            }
            for (int day = 1; day <= 202; day++) {
                x.day(0);
                Due.is("SUM", x.told(0, 11), 495 * day);
            }
            for (int n = 0; n <= 3; n++) {
                Due.is("in thought: " + n + " times " + more, x.run(n, 0, 1), Math.min(99999, 99990 + n * more));
            }
            x.day(0);
            Due.is(more + " more", x.told(0, 11), Math.min(99999, 99990 + more));
            Due.is("TIMES goes on", x.told(0, 12), 5 * 203);
            x.day(0);
            Due.is("twice " + more + " more", x.told(0, 11), Math.min(99999, 99990 + 2 * more));
        }
    }

    /** No 512 calls come so far (5 a DAY); that an object holds the bound behind them is more than is promised. */
    private static void timesAtMost() {
        Due.sentence("TIMES as many as they are (9999 at most)");
        CountsIfCounted x = new CountsIfCounted();
        for (int i = 0; i < 4; i++) {
            x.person(0, 0, 0, 0);
        }
        x.sheet(0, 0, 1);
        for (int times = 4; times <= 10020; times += 4) {
            Due.is("in thought", x.walks(0, 2), Math.min(9999, times));
            x.set(0, 0, 0);
            x.day(0);
            Due.is("TIMES", x.told(0, 12), Math.min(9999, times));
        }
    }

    private static void fivePeople() {
        Due.sentence("PEOPLE (5 at most, numbered from 0)");
        CountsIfCounted x = new CountsIfCounted();
        Due.is("nobody", x.count(0), 0);
        Due.is("nobody's NUMBER", x.told(0, 3), -1000);
        for (int i = 0; i < 5; i++) {
            Due.is("comes", x.person(0, i, 0, 0), i);
            Due.is("its NUMBER", x.told(i, 3), i);
            Due.is("the next is none such", x.told(i + 1, 3), -1000);
        }
        Due.is("a sixth", x.person(0, 0, 0, 0), -4);
        Due.is("5", x.count(0), 5);
        Due.is("all are AT 0", x.told(0, 10), 31);
    }

    private static void kinds() {
        Due.sentence("KIND: 0 COUNTER, 1 TWIN under COUNTER, 2 ENEMY under COUNTER, 3 CHILD under TWIN, "
                + "4 WIDOW under ENEMY, 5 BLIND under COUNTER");
        for (int kind = -1; kind <= 6; kind++) {
            CountsIfCounted x = new CountsIfCounted();
            Due.is("KIND " + kind, x.person(kind, 0, 0, 0), kind < 0 || kind > 5 ? -2 : 0);
            Due.is("is of KIND " + kind, x.told(0, 7), kind < 0 || kind > 5 ? -1000 : kind);
        }
        int[][] above = {{0}, {1, 0}, {2, 0}, {3, 1, 0}, {4, 2, 0}, {5, 0}};
        for (int kind = 0; kind <= 5; kind++) {
            for (int k = 0; k <= 5; k++) {
                int its = k;
                boolean isUnder = java.util.Arrays.stream(above[kind]).anyMatch(a -> a == its);
                Due.is(kind + " taken for " + k, with(kind, 8, 0, 0).taken(0, k), isUnder ? 8 : -13);
            }
        }
    }

    private static void numbers() {
        Due.sentence("a NUMBER (0 .. 9)");
        range("NUMBER", 3, 9);
        for (int v = -1; v <= 10; v++) {
            Due.is("comes with NUMBER " + v, new CountsIfCounted().person(2, v, 0, 0), v < 0 || v > 9 ? -2 : 0);
        }
    }

    private static void joys() {
        Due.sentence("JOY (0 .. 99)");
        range("JOY", 4, 99);
        for (int v : new int[] {-1, 0, 1, 98, 99, 100}) {
            Due.is("comes with JOY " + v, new CountsIfCounted().person(0, 0, v, 0), v < 0 || v > 99 ? -2 : 0);
        }
        for (int v : new int[] {-1, 0, 7, 8}) {
            Due.is("comes AT " + v, new CountsIfCounted().person(0, 0, 0, v), v < 0 || v > 7 ? -2 : 0);
        }
        range("AT", 5, 7);
    }

    private static void range(String name, int what, int highest) {
        CountsIfCounted x = with(0, 0, 0, 0);
        Due.is(name + ": the highest", x.set(what, 0, highest), 0);
        Due.is(name + ": one above", x.set(what, 0, highest + 1), -2);
        Due.is(name + ": it stays", x.told(0, what), highest);
        Due.is(name + ": the least", x.set(what, 0, 0), highest);
        Due.is(name + ": one below", x.set(what, 0, -1), -2);
        Due.is(name + ": it stays", x.told(0, what), 0);
    }

    private static void seen() {
        Due.sentence("have SEEN him so often (0 .. 99; 0 as one comes)");
        range("SEEN", 6, 99);
        CountsIfCounted x = with(0, 0, 0, 0);
        x.image();
        x.person(0, 9, 9, 0);
        x.set(6, 1, 99);
        x.back();
        x.person(0, 9, 9, 0);
        Due.is("0 as one comes where another was", x.told(1, 6), 0);
        x.sheet(0, 0, 4);
        x.census(0, 0, 0, 1);
        Due.is("0 as one comes by a census", x.told(2, 6), 0);
    }

    private static void quotients() {
        Due.sentence("Quotients are cut toward 0.");
        for (int counts = 0; counts <= 13; counts++) {
            CountsIfCounted x = counts("" + counts);
            for (int i = 1; i <= 5; i++) {
                x.person(1, 0, 0, 0);
                Due.is(counts + " by " + i, x.told(i - 1, 8), counts / i);
            }
        }
        for (int goes = -5; goes <= 5; goes++) {
            CountsIfCounted x = Due.under("counts 12; joys 1; goes " + goes + ";");
            x.person(4, 0, 0, 0);
            Due.is("half of " + -goes, x.told(0, 9), 1000 + -goes / 2);
        }
    }

    // ---- what one MAKES him

    private static void twin() {
        Due.sentence("TWIN: a COUNTER's by how many TWINS, and those under them, are AT its HOUSE, itself, too");
        CountsIfCounted x = counts("60");
        x.person(1, 0, 0, 0);
        Due.is("itself alone", x.told(0, 8), 60);
        x.person(0, 0, 0, 0);
        x.person(2, 0, 0, 0);
        Due.is("none of another KIND", x.told(0, 8), 60);
        x.person(1, 0, 0, 1);
        Due.is("none elsewhere", x.told(0, 8), 60);
        x.person(3, 0, 0, 0);
        Due.is("a CHILD, too", x.told(0, 8), 30);
        x.set(5, 3, 0);
        Due.is("three", x.told(0, 8), 20);
        x.set(5, 0, 7);
        Due.is("alone elsewhere", x.told(0, 8), 60);
    }

    private static void enemy() {
        Due.sentence("ENEMY: NUMBER less than a COUNTER, 0 at least");
        for (int counts = 0; counts <= 10; counts++) {
            for (int number = 0; number <= 9; number++) {
                CountsIfCounted x = counts("" + counts);
                x.person(2, number, 0, 0);
                Due.is(number + " less than " + counts, x.told(0, 8), Math.max(0, counts - number));
            }
        }
    }

    private static void child() {
        Due.sentence("CHILD: twice a TWIN's");
        CountsIfCounted x = counts("15");
        x.person(3, 0, 0, 0);
        Due.is("alone", x.told(0, 8), 30);
        x.person(1, 0, 0, 0);
        Due.is("twice 15 by 2", x.told(0, 8), 14);
        x.person(3, 0, 0, 0);
        Due.is("twice 15 by 3", x.told(0, 8), 10);
    }

    private static void widow() {
        Due.sentence("WIDOW: as an ENEMY, and 6, if no one else is AT that HOUSE");
        for (int counts = 0; counts <= 10; counts++) {
            for (int number = 0; number <= 9; number++) {
                CountsIfCounted x = counts("" + counts);
                x.person(4, number, 0, 0);
                Due.is("alone, " + number + " less than " + counts, x.told(0, 8), Math.max(0, counts - number) + 6);
                x.person(0, 0, 0, 0);
                Due.is("not alone, " + number + " less than " + counts, x.told(0, 8), Math.max(0, counts - number));
            }
        }
    }

    private static void widowAlone() {
        Due.sentence("if no one else is AT that HOUSE");
        for (int kind = 0; kind <= 5; kind++) {
            CountsIfCounted x = with(kind, 0, 0, 3);
            x.person(4, 2, 0, 3);
            Due.is("with one of KIND " + kind + " ahead", x.told(1, 8), 10);
            x.set(5, 0, 2);
            Due.is("one of KIND " + kind + " one HOUSE back", x.told(1, 8), 16);
            x.set(5, 0, 4);
            Due.is("one of KIND " + kind + " one HOUSE on", x.told(1, 8), 16);
            x.set(1, 0, 3);
            Due.is("THE CLERK is none of PEOPLE", x.told(1, 8), 16);
            x.person(kind, 0, 0, 3);
            Due.is("with one of KIND " + kind + " behind", x.told(1, 8), 10);
        }
    }

    private static void blind() {
        Due.sentence("BLIND: 12, if it has SEEN him as often as NUMBER or more, else 0.");
        for (int number = 0; number <= 9; number++) {
            CountsIfCounted x = counts("50");
            x.person(5, number, 0, 0);
            for (int seen : new int[] {0, number - 1, number, number + 1, 99}) {
                x.set(6, 0, Math.max(0, seen));
                Due.is("SEEN " + seen + ", NUMBER " + number, x.told(0, 8), Math.max(0, seen) >= number ? 12 : 0);
            }
        }
    }

    private static void makesBound() {
        Due.sentence("(0 .. 99, else the bound: laid once, on what comes out.)");
        for (int counts : new int[] {48, 49, 50, 51, 98, 99}) {
            CountsIfCounted x = counts("" + counts);
            x.person(3, 0, 0, 0);
            Due.is("twice " + counts, x.told(0, 8), Math.min(99, 2 * counts));
            x.set(1, 0, 0);
            x.day(0);
            Due.is("SUM by twice " + counts, x.told(0, 11), Math.min(99, 2 * counts));
        }
        for (int number = 0; number <= 9; number++) {
            CountsIfCounted x = counts("99");
            x.person(4, number, 0, 0);
            Due.is("6 more than 99 less " + number, x.told(0, 8), Math.min(99, 99 - number + 6));
        }
        CountsIfCounted z = counts("99");
        z.person(3, 0, 0, 0);
        z.person(1, 0, 0, 0);
        z.person(1, 0, 0, 0);
        Due.is("once: twice 33, not a third of 99", z.told(0, 8), 66);
        Due.is("a TWIN's 33", z.told(1, 8), 33);
        for (int counts = -1; counts <= 1; counts++) {
            CountsIfCounted x = counts("" + counts);
            x.person(3, 0, 0, 0);
            x.person(0, 0, 0, 0);
            Due.is("a CHILD's", x.told(0, 8), Math.max(0, 2 * counts));
            Due.is("a COUNTER's", x.told(1, 8), Math.max(0, counts));
        }
    }

    // ---- by how much it GLADDENS

    /** JOY behind a DAY by STEP 0 of one that comes first, with others AT its HOUSE or elsewhere. */
    private static int joyBehind(String text, int day, int kind, int number, int joy) {
        CountsIfCounted x = Due.under(text);
        x.person(kind, number, joy, 0);
        x.set(0, 0, day);
        x.day(0);
        return x.told(0, 4);
    }

    private static void gladdensTwin() {
        Due.sentence("TWIN: as a COUNTER, if it MAKES him 12, else 0");
        for (int counts = 10; counts <= 14; counts++) {
            String text = "counts " + counts + "; joys 5; goes 0;";
            Due.is("a TWIN that MAKES " + counts, joyBehind(text, 0, 1, 0, 20), counts == 12 ? 25 : 20);
        }
    }

    private static void gladdensChild() {
        Due.sentence("CHILD: NUMBER more than a TWIN");
        for (int counts = 5; counts <= 7; counts++) {
            for (int number = 0; number <= 9; number += 3) {
                String text = "counts " + counts + "; joys 5; goes 0;";
                int due = 20 + number + (counts == 6 ? 5 : 0);
                Due.is("a CHILD that MAKES " + 2 * counts, joyBehind(text, 0, 3, number, 20), due);
            }
        }
        Due.is("a CHILD at 99", joyBehind("counts 5; joys 5; goes 0;", 0, 3, 9, 91), 99);
        Due.is("a CHILD, less", joyBehind("counts 6; joys -20; goes 0;", 0, 3, 9, 10), 0);
    }

    private static void gladdensEnemy() {
        Due.sentence("ENEMY: 0 less a COUNTER's");
        for (int joys : new int[] {-120, -99, -1, 0, 1, 99, 120}) {
            String text = "counts 12; joys " + joys + "; goes 0;";
            int due = Math.max(0, Math.min(99, 50 - Math.max(-99, Math.min(99, joys))));
            Due.is("by " + joys, joyBehind(text, 0, 2, 0, 50), due);
        }
    }

    private static void gladdensWidow() {
        Due.sentence("WIDOW: as an ENEMY, in odd DAYS, else 0");
        for (int day : new int[] {0, 1, 2, 3, 997, 998}) {
            int due = day % 2 == 1 ? 43 : 50;
            Due.is("in DAY " + day, joyBehind("counts 12; joys 7; goes 0;", day, 4, 0, 50), due);
        }
        CountsIfCounted x = Due.under("counts 12; joys 7; goes 0;");
        x.person(4, 0, 50, 0);
        x.set(0, 0, 999);
        Due.is("in thought in DAY 999", x.run(1, 0, 20), 43);
        Due.is("in thought in DAY 1000", x.run(2, 0, 20), 43);
        Due.is("in thought in DAY 1001", x.run(3, 0, 20), 36);
    }

    private static void gladdensBlind() {
        Due.sentence("BLIND: 1.");
        for (int number : new int[] {0, 9}) {
            Due.is("whether it MAKES him 12 or not", joyBehind("counts 0; joys 50; goes 0;", 0, 5, number, 5), 6);
        }
        Due.is("to the bound", joyBehind("counts 0; joys 50; goes 0;", 0, 5, 0, 98), 99);
        Due.is("at the bound", joyBehind("counts 0; joys 50; goes 0;", 0, 5, 0, 99), 99);
    }

    // ---- how many HOUSES it GOES

    private static int goes(String goes, int kind, int joy, int day) {
        CountsIfCounted x = Due.under("counts 12; joys 1; goes " + goes + ";");
        x.person(kind, 0, joy, 0);
        x.set(0, 0, day);
        return x.told(0, 9) - 1000;
    }

    private static void goesTwin() {
        Due.sentence("TWIN: 0; ENEMY: 0 less a COUNTER's; CHILD");
        for (int goes : new int[] {-120, -100, -99, -98, -1, 0, 1, 98, 99, 100, 120}) {
            int bound = Math.max(-99, Math.min(99, goes));
            Due.is("a COUNTER " + goes, goes("" + goes, 0, 0, 0), bound);
            Due.is("a TWIN " + goes, goes("" + goes, 1, 99, 0), 0);
            Due.is("an ENEMY " + goes, goes("" + goes, 2, 0, 0), -bound);
        }
    }

    private static void goesChild() {
        Due.sentence("CHILD: as a TWIN, and 1, if JOY is above 50");
        for (int joy : new int[] {0, 49, 50, 51, 99}) {
            Due.is("JOY " + joy, goes("7", 3, joy, 0), joy > 50 ? 1 : 0);
        }
    }

    private static void goesWidow() {
        Due.sentence("WIDOW: half (cut) of an ENEMY's");
        for (int goes : new int[] {-100, -99, -3, -2, -1, 0, 1, 2, 3, 99, 100}) {
            int bound = Math.max(-99, Math.min(99, goes));
            Due.is("a WIDOW " + goes, goes("" + goes, 4, 0, 0), -bound / 2);
        }
    }

    private static void goesBlind() {
        Due.sentence("BLIND: 4, if DAY modulo 5 is 0, else 0.");
        for (int day : new int[] {0, 1, 4, 5, 6, 9, 10, 11, 994, 995, 996, 999}) {
            Due.is("DAY " + day, goes("7", 5, 0, day), day % 5 == 0 ? 4 : 0);
        }
        CountsIfCounted x = with(5, 0, 0, 0);
        x.set(0, 0, 999);
        int[] due = {0, 0, 4, 4, 4, 4, 4, 0};
        for (int n = 0; n < due.length; n++) {
            Due.is("in thought behind " + n + " DAYS from 999 on", x.run(n, 0, 10), due[n]);
        }
    }
}
