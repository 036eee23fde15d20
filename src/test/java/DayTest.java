/** Promises 8 to 11: day, walks, run, when; and what a DAY does. */
final class DayTest {
    private static final int MIN = Integer.MIN_VALUE, MAX = Integer.MAX_VALUE;

    public static void main(String[] args) {
        clerkGoesRound();
        emptyHouseStays();
        goodAndNotGood();
        sums();
        toldAhead();
        gladdens();
        gladdensByWhatItMade();
        gladdensToldThen();
        peopleGo();
        dayRefuses();
        walks();
        walksRefuses();
        runs();
        runRefuses();
        when();
        thoughtPassesLastDay();
        Due.end();
    }

    private static void clerkGoesRound() {
        CountsIfCounted x = new CountsIfCounted();
        Due.is("8: GOOD", x.day(-1), 0);
        Due.is("8: behind 0 back is 7", x.told(0, 1), 7);
        x.day(1);
        Due.is("8: behind 7 is 0", x.told(0, 1), 0);
        x.day(0);
        Due.is("8: STEP 0", x.told(0, 1), 0);
        x.day(1);
        Due.is("8: STEP 1", x.told(0, 1), 1);
        Due.is("8: DAYS", x.told(0, 0), 4);
        Due.is("8: none, none MADE", x.told(0, 12), 0);
    }

    private static void emptyHouseStays() {
        CountsIfCounted x = new CountsIfCounted();
        x.set(2, 0, 5);
        Due.is("8: an empty HOUSE stays GOOD", x.day(0), 5);
        Due.is("8: an empty one is not made GOOD", x.day(1), 5);
        x.person(2, 1, 50, 2);
        Due.is("8: it isn't any more", x.day(1), 1);
    }

    private static void goodAndNotGood() {
        CountsIfCounted x = new CountsIfCounted();
        x.person(0, 0, 0, 3);
        x.person(2, 0, 0, 3);
        x.set(1, 0, 2);
        Due.is("8: all MAKE him 12", x.day(1), 8);
        x.set(3, 1, 1);
        Due.is("8: not all do", x.day(0), 0);
        x.set(3, 1, 0);
        Due.is("8: all do", x.day(0), 8);
        x.person(3, 0, 0, 3);
        Due.is("8: 24 is not 12", x.day(0), 0);
        CountsIfCounted y = Due.under("counts joy; joys 0; goes 0;");
        y.person(0, 0, 11, 0);
        y.person(0, 0, 13, 0);
        Due.is("8: 11 and 13 are not 12 each", y.day(0), 0);
        Due.is("8: SUM", y.told(0, 11), 24);
    }

    private static void sums() {
        CountsIfCounted x = Due.under("counts 99; joys 0; goes 0;");
        for (int i = 0; i < 5; i++) {
            x.person(0, 0, 0, 0);
        }
        int sum = 0;
        for (int day = 1; day <= 300; day++) {
            x.day(0);
            sum = Math.min(99999, sum + 495);
            Due.is("8: SUM, 99999 at most", x.told(0, 11), sum);
            Due.is("8: TIMES", x.told(0, 12), 5 * day);
        }
        Due.is("15: SUM at its bound", x.self(0), 11111);
        Due.is("15: below", x.self(1), 2000);
    }

    /** A BLIND one's first sight of him comes behind what it MAKES him, and a TWIN leaves behind it too. */
    private static void toldAhead() {
        CountsIfCounted x = new CountsIfCounted();
        x.person(5, 1, 0, 0);
        x.set(0, 0, 1);
        Due.is("8: BLIND has not seen yet", x.day(0), 0);
        Due.is("8: SUM", x.told(0, 11), 0);
        Due.is("8: TIMES", x.told(0, 12), 1);
        Due.is("8: has SEEN", x.told(0, 6), 1);
        Due.is("8: BLIND has seen", x.day(0), 1);
        Due.is("8: SUM", x.told(0, 11), 12);
        Due.is("8: a BLIND one's JOY", x.told(0, 4), 2);
        CountsIfCounted y = Due.under("counts seen; joys 0; goes 0;");
        y.person(0, 0, 0, 0);
        y.person(0, 0, 0, 1);
        y.set(6, 0, 98);
        y.day(0);
        Due.is("8: SEEN ahead of it", y.told(0, 11), 98);
        Due.is("8: SEEN", y.told(0, 6), 99);
        y.day(0);
        Due.is("8: SEEN 99 at most", y.told(0, 6), 99);
        Due.is("8: who isn't there has not SEEN him", y.told(1, 6), 0);
    }

    private static void gladdens() {
        CountsIfCounted x = Due.under("counts 12; joys 7; goes 0;");
        x.person(0, 4, 10, 0);
        x.person(2, 4, 10, 1);
        x.person(4, 4, 10, 2);
        x.person(5, 4, 10, 3);
        x.person(0, 4, 10, 4);
        x.day(0);
        Due.is("GLADDENS: COUNTER", x.told(0, 4), 17);
        Due.is("GLADDENS: who isn't there", x.told(4, 4), 10);
        x.day(1);
        Due.is("GLADDENS: ENEMY", x.told(1, 4), 3);
        x.day(1);
        Due.is("GLADDENS: WIDOW in even DAYS", x.told(2, 4), 10);
        x.day(0);
        Due.is("GLADDENS: WIDOW in odd DAYS", x.told(2, 4), 3);
        x.day(0);
        x.day(0);
        Due.is("GLADDENS: 0 at least", x.told(2, 4), 0);
        x.day(1);
        Due.is("GLADDENS: BLIND", x.told(3, 4), 11);
        x.set(4, 4, 95);
        x.set(1, 0, 4);
        x.day(0);
        Due.is("GLADDENS: 99 at most", x.told(4, 4), 99);
    }

    private static void gladdensByWhatItMade() {
        CountsIfCounted x = Due.under("counts 12; joys 7; goes 0;");
        x.person(1, 4, 10, 0);
        x.person(3, 4, 10, 1);
        x.day(0);
        Due.is("GLADDENS: a TWIN that MADE 12", x.told(0, 4), 17);
        x.day(1);
        Due.is("GLADDENS: a CHILD that MADE 24", x.told(1, 4), 14);
        x.set(5, 0, 1);
        x.day(0);
        Due.is("GLADDENS: a TWIN that MADE 6", x.told(0, 4), 17);
        Due.is("GLADDENS: a CHILD that MADE 12", x.told(1, 4), 25);
        CountsIfCounted y = Due.under("counts 12 + seen; joys 7; goes 0;");
        y.person(1, 0, 0, 0);
        y.day(0);
        Due.is("GLADDENS: by what it MADE, not what it would make", y.told(0, 4), 7);
        y.day(0);
        Due.is("GLADDENS: it MADE 13", y.told(0, 4), 7);
    }

    /** JOY is told when GOOD and SEEN are new already, and DAY not yet. */
    private static void gladdensToldThen() {
        CountsIfCounted x = Due.under("counts 12; joys good * 10 + seen + day * 3; goes 0;");
        x.person(0, 0, 0, 2);
        x.set(1, 0, 2);
        x.set(0, 0, 1);
        x.day(0);
        Due.is("GLADDENS: told as all is then", x.told(0, 4), 14);
        CountsIfCounted y = Due.under("counts 12; joys joy; goes 0;");
        y.person(0, 0, 5, 0);
        y.day(0);
        Due.is("GLADDENS: by its JOY ahead of it", y.told(0, 4), 10);
    }

    private static void peopleGo() {
        CountsIfCounted x = Due.under("counts 12; joys 30; goes joy + day;");
        x.person(0, 0, 0, 0);
        x.person(2, 0, 3, 1);
        x.person(5, 0, 0, 6);
        x.set(0, 0, 5);
        x.day(0);
        Due.is("GOES: by JOY that came and DAY that ends", x.told(0, 5), 35 % 8);
        Due.is("GOES: who isn't there goes, too, round below 0", x.told(1, 5), 1);
        Due.is("GOES: BLIND", x.told(2, 5), 2);
        x.day(0);
        Due.is("GOES: BLIND in another DAY", x.told(2, 5), 2);
        CountsIfCounted y = new CountsIfCounted();
        y.person(3, 0, 51, 7);
        y.day(0);
        Due.is("GOES: a glad CHILD, round", y.told(0, 5), 0);
    }

    private static void dayRefuses() {
        CountsIfCounted x = new CountsIfCounted();
        x.person(0, 0, 0, 0);
        String was = Due.all(x);
        for (int step : new int[] {-2, 2, MIN, MAX}) {
            Due.is("8: BAD", x.day(step), -2);
        }
        Due.that("8: BAD changes nothing", was.equals(Due.all(x)));
        x.set(0, 0, 998);
        Due.is("8: to the last DAY", x.day(0), 1);
        Due.is("8: the last DAY", x.told(0, 0), 999);
        was = Due.all(x);
        Due.is("8: STATE", x.day(0), -3);
        Due.is("8: BAD is ahead of STATE", x.day(2), -2);
        Due.that("8: STATE changes nothing", was.equals(Due.all(x)));
    }

    private static void walks() {
        CountsIfCounted x = new CountsIfCounted();
        x.person(0, 0, 0, 0);
        x.person(2, 2, 50, 1);
        x.person(0, 0, 0, 7);
        String was = Due.all(x);
        for (int sort = 0; sort <= 2; sort++) {
            Due.row(x, sort, sort, -1, 1, 1, 0);
            Due.is("9: GOOD", x.walks(sort, 0), 129);
            Due.is("9: SUM", x.walks(sort, 1), 12 + 12 + 10 + 10);
            Due.is("9: TIMES", x.walks(sort, 2), 4);
            Due.is("9: CLERK", x.walks(sort, 3), 1);
        }
        Due.that("9: in thought", was.equals(Due.all(x)));
        Due.row(x, 3, 0);
        Due.is("9: no STEP", x.walks(3, 1), 0);
        x.sheet(3, 1, 20);
        Due.is("9: 20 STEPS", x.walks(3, 2), 20);
    }

    private static void walksRefuses() {
        CountsIfCounted x = new CountsIfCounted();
        Due.is("9: -11", x.walks(0, 0), -11);
        Due.is("9: BAD is ahead of -11", x.walks(0, 4), -2);
        Due.is("9: BAD is ahead of -11", x.walks(0, -1), -2);
        Due.is("9: BAD", x.walks(4, 0), -2);
        Due.is("9: BAD", x.walks(-1, 0), -2);
        Due.is("9: BAD", x.walks(MAX, MIN), -2);
        x.sheet(0, 2, 21);
        Due.is("9: BAD: more than 20", x.walks(0, 0), -2);
        Due.row(x, 1, 2, 0, 1, 2);
        Due.is("9: BAD: no STEP", x.walks(1, 0), -2);
        Due.row(x, 1, 2, -2, 1, 1);
        Due.is("9: BAD: no STEP", x.walks(1, 0), -2);
        Due.row(x, 1, 0, 255, 257);
        Due.is("9: lowest bits are STEPS", x.walks(1, 3), 0);
    }

    private static void runs() {
        CountsIfCounted x = new CountsIfCounted();
        for (int house = 0; house < 4; house++) {
            x.person(house == 3 ? 5 : 0, 0, 10 * house, house);
        }
        x.set(0, 0, 1);
        String was = Due.all(x);
        Due.is("10: GOOD now", x.run(0, 1, 0), 0);
        Due.is("10: SUM now", x.run(0, 1, 1), 0);
        Due.is("10: GOOD", x.run(2, 1, 0), 6);
        Due.is("10: SUM", x.run(2, 1, 1), 24);
        Due.is("10: SUM of 40", x.run(40, 0, 1), 480);
        Due.is("10: AT", x.run(4, 1, 13), 3);
        Due.is("10: AT, behind a fifth DAY", x.run(5, 1, 13), 7);
        Due.is("10: JOY", x.run(3, 1, 22), 21);
        Due.is("10: JOY", x.run(3, 1, 20), 0);
        Due.is("10: JOY", x.run(8, -1, 20), 1);
        Due.that("10: in thought", was.equals(Due.all(x)));
    }

    private static void runRefuses() {
        CountsIfCounted x = new CountsIfCounted();
        x.person(0, 0, 0, 0);
        int[][] bad = {{-1, 0, 0}, {41, 0, 0}, {0, -2, 0}, {0, 2, 0}, {0, 0, -1}, {0, 0, 2}, {0, 0, 9}, {0, 0, 11},
            {0, 0, 15}, {0, 0, 19}, {0, 0, 21}, {0, 0, 25}, {MIN, 0, 0}, {MAX, 0, 0}, {0, MIN, 0}, {0, 0, MAX}, {0, 0, MIN}};
        for (int[] one : bad) {
            Due.is("10: BAD", x.run(one[0], one[1], one[2]), -2);
        }
        Due.is("10: one numbered 0", x.run(40, 0, 10), 0);
        Due.is("10: its JOY", x.run(40, 0, 20), 40);
    }

    private static void when() {
        CountsIfCounted x = new CountsIfCounted();
        x.person(0, 0, 0, 3);
        x.person(5, 5, 0, 2);
        x.set(2, 0, 128);
        x.set(0, 0, 1);
        String was = Due.all(x);
        Due.is("11: now", x.when(7, 1), 0);
        Due.is("11: behind 3", x.when(3, 1), 3);
        Due.is("11: behind 5", x.when(3, -1), 5);
        Due.is("11: never", x.when(3, 0), -1);
        Due.that("11: in thought", was.equals(Due.all(x)));
        int[][] bad = {{-1, 0}, {8, 0}, {0, 2}, {0, -2}, {MAX, 0}, {MIN, 0}, {0, MAX}, {0, MIN}};
        for (int[] one : bad) {
            Due.is("11: BAD", x.when(one[0], one[1]), -2);
        }
        for (int last = 59; last <= 61; last++) {
            CountsIfCounted y = Due.under("counts 12 * (day = number * 10 + joy); joys 0; goes 0;");
            y.person(0, 5, last - 1 - 50, 0);
            Due.is("11: 60 DAYS", y.when(0, 0), last <= 60 ? last : -1);
        }
    }

    private static void thoughtPassesLastDay() {
        CountsIfCounted x = Due.under("counts 12 * (999 < day); joys 0; goes 0;");
        x.person(0, 0, 0, 0);
        x.set(0, 0, 999);
        Due.is("10: DAY may pass 999", x.run(2, 0, 1), 12);
        Due.is("11: DAY may pass 999", x.when(0, 0), 2);
        Due.is("4: not truly", x.told(0, 0), 999);
    }
}
