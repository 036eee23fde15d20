import java.util.function.ToLongFunction;

/** The document's part 2: a test for each sentence that names a bound, a wrap-around, or what is empty or full. */
final class DayBoundTest {
    private static final int MIN = Integer.MIN_VALUE, MAX = Integer.MAX_VALUE;
    private static final long NO = -4611686018427387904L;

    public static void main(String[] args) {
        steps();
        anyThere();
        notAll();
        toldAhead();
        seenAtMost();
        joyBound();
        byNumbers();
        goRound();
        dayIsOneMore();
        thoughtPassesLastDay();
        thoughtIsNotTrue();
        runDays();
        runAsks();
        whenDays();
        whenAsks();
        bestRow();
        likeRows();
        noSteps();
        beginDays();
        likeBegins();
        out();
        bring();
        bringLike();
        self();
        toldAtMost();
        toldFirst();
        toldOfAll();
        filmed();
        drawnDays();
        drawnWraps();
        inSeeds();
        seedsWrap();
        image();
        peopleGo();
        nobody();
        noDays();
        nothingTold();
        noneKeptYet();
        Due.end();
    }

    private static CountsIfCounted countersAt(int... houses) {
        CountsIfCounted x = new CountsIfCounted();
        for (int house : houses) {
            x.person(0, 0, 0, house);
        }
        return x;
    }

    // ---- a day

    private static void steps() {
        Due.sentence("A DAY by a STEP (-1, 0, 1): THE CLERK is AT the HOUSE so many on (round).");
        for (int step = -2; step <= 2; step++) {
            for (int house : new int[] {0, 1, 6, 7}) {
                CountsIfCounted x = new CountsIfCounted();
                x.set(1, 0, house);
                boolean isStep = step >= -1 && step <= 1;
                Due.is("STEP " + step, x.day(step), isStep ? 0 : -2);
                Due.is("AT behind STEP " + step, x.told(0, 1), isStep ? Math.floorMod(house + step, 8) : house);
                Due.is("DAY behind STEP " + step, x.told(0, 0), isStep ? 1 : 0);
            }
        }
    }

    private static void anyThere() {
        Due.sentence("Are there any, and do all of them MAKE him 12, the HOUSE is GOOD;");
        for (int good : new int[] {0, 1, 254, 255}) {
            CountsIfCounted x = countersAt(1, 7);
            x.set(2, 0, good);
            Due.is("an empty HOUSE is as it was", x.day(0), good);
            Due.is("SUM", x.told(0, 11), 0);
            Due.is("TIMES", x.told(0, 12), 0);
            Due.is("one is there", x.day(1), good | 2);
            Due.is("TIMES", x.told(0, 12), 1);
        }
        CountsIfCounted x = new CountsIfCounted();
        Due.is("nobody at all", x.day(0), 0);
        for (int i = 1; i <= 5; i++) {
            x.person(0, 0, 0, 0);
            Due.is(i + " are there", x.day(0), 1);
        }
        Due.is("SUM", x.told(0, 11), 12 * 15);
        Due.is("TIMES", x.told(0, 12), 15);
    }

    private static void notAll() {
        Due.sentence("are there any, and don't they all, it isn't any more.");
        for (int joy = 11; joy <= 13; joy++) {
            for (int other = 11; other <= 13; other++) {
                CountsIfCounted x = Due.under("counts joy; joys 0; goes 0;");
                x.person(0, 0, joy, 3);
                x.person(0, 0, other, 3);
                x.set(1, 0, 3);
                boolean isGood = joy == 12 && other == 12;
                Due.is(joy + " and " + other, x.day(0), isGood ? 8 : 0);
                x.set(2, 0, 255);
                Due.is(joy + " and " + other + " from GOOD on", x.day(0), isGood ? 255 : 247);
            }
        }
    }

    private static void toldAhead() {
        Due.sentence("All who are there, told ahead of all, MAKE him so much");
        CountsIfCounted x = Due.under("counts seen + joy + 10 * (day = 4) + 5 * good; joys 7; goes 0;");
        x.person(0, 0, 0, 0);
        x.person(0, 0, 1, 0);
        x.set(0, 0, 4);
        x.day(0);
        Due.is("SUM", x.told(0, 11), 10 + 11);
        Due.is("TIMES", x.told(0, 12), 2);
        CountsIfCounted y = countersAt(0);
        y.person(5, 1, 0, 0);
        Due.is("a BLIND one that is yet to see him", y.day(0), 0);
        Due.is("has seen him", y.day(0), 1);
    }

    private static void seenAtMost() {
        Due.sentence("has SEEN him once more (99 at most)");
        for (int seen : new int[] {0, 1, 97, 98, 99}) {
            CountsIfCounted x = countersAt(0, 1);
            x.set(6, 0, seen);
            x.set(6, 1, seen);
            x.day(0);
            Due.is("SEEN " + seen, x.told(0, 6), Math.min(99, seen + 1));
            Due.is("SEEN " + seen + ", elsewhere", x.told(1, 6), seen);
        }
        CountsIfCounted x = Due.under("counts seen; joys 0; goes 0;");
        x.person(0, 0, 0, 0);
        x.set(6, 0, 98);
        Due.is("in thought 98, 99, 99", x.run(3, 0, 1), 98 + 99 + 99);
    }

    private static void joyBound() {
        Due.sentence("its JOY is more by what it GLADDENS (0 .. 99, else the bound; told as all is then, with what it MADE him)");
        for (int joys : new int[] {-99, -50, -2, -1, 0, 1, 2, 50, 99}) {
            for (int joy : new int[] {0, 1, 2, 49, 50, 97, 98, 99}) {
                CountsIfCounted x = Due.under("counts 12; joys " + joys + "; goes 0;");
                x.person(0, 0, joy, 0);
                x.person(0, 0, joy, 1);
                int due = Math.max(0, Math.min(99, joy + joys));
                Due.is("in thought: " + joy + " by " + joys, x.run(1, 0, 20), due);
                x.day(0);
                Due.is(joy + " by " + joys, x.told(0, 4), due);
                Due.is(joy + " by " + joys + ", elsewhere", x.told(1, 4), joy);
            }
        }
        CountsIfCounted x = Due.under("counts 12 + seen; joys 10 * good + seen; goes 0;");
        x.person(1, 0, 0, 0);
        x.day(0);
        Due.is("GOOD and SEEN as they are then, with the 12 it MADE", x.told(0, 4), 11);
    }

    /** Whether one whom another's JOY follows comes ahead or behind can't be seen: no NAME tells of another. */
    private static void byNumbers() {
        Due.sentence("Then all PEOPLE, by numbers, are AT the HOUSE so many on as they GO (round; told as all is then).");
        CountsIfCounted x = Due.under("counts 12; joys 20; goes joy - 30 + seen + good + day;");
        x.person(0, 0, 31, 0);
        x.person(0, 0, 31, 4);
        x.set(0, 0, 10);
        x.day(0);
        Due.is("one who was there: 51 - 30 + 1 + 1 + 10", x.told(0, 5), 33 % 8);
        Due.is("one who was not: 31 - 30 + 0 + 1 + 10", x.told(1, 5), (4 + 12) % 8);
        CountsIfCounted y = new CountsIfCounted();
        y.person(3, 1, 49, 2);
        y.person(3, 2, 49, 2);
        y.set(1, 0, 2);
        y.day(0);
        Due.is("a CHILD with 50 then: 49 and 1, and 1 for 12", y.told(0, 4), 51);
        Due.is("it GOES", y.told(0, 5), 3);
        Due.is("the other GOES", y.told(1, 5), 3);
    }

    private static void goRound() {
        Due.sentence("are AT the HOUSE so many on as they GO (round");
        for (int house = 0; house <= 7; house++) {
            for (int goes : new int[] {-99, -8, -1, 0, 1, 8, 99}) {
                CountsIfCounted x = Due.under("counts 12; joys 0; goes " + goes + ";");
                x.person(0, 0, 0, house);
                x.person(2, 0, 0, house);
                Due.is("in thought", x.run(1, 0, 10), Math.floorMod(house + goes, 8));
                x.day(0);
                Due.is("on by " + goes, x.told(0, 5), Math.floorMod(house + goes, 8));
                Due.is("an ENEMY", x.told(1, 5), Math.floorMod(house - goes, 8));
            }
        }
    }

    private static void dayIsOneMore() {
        Due.sentence("DAY is 1 more.");
        CountsIfCounted x = countersAt(0);
        for (int day = 0; day < 20; day++) {
            Due.is("DAY", x.told(0, 0), day);
            x.day(day % 3 - 1);
        }
        for (int day : new int[] {998, 999}) {
            x.set(0, 0, day);
            Due.is("on DAY " + day, x.day(0), day == 999 ? -3 : x.told(0, 2));
            Due.is("DAY", x.told(0, 0), 999);
        }
    }

    // ---- in thought

    /** From DAY 999 on he is MADE 12 only behind it: what answers by that has thought of DAYS above 999. */
    private static void thoughtPassesLastDay() {
        Due.sentence("(In thought, wherever it is, DAY may pass 999.)");
        beyond("walks GOOD", 1, x -> x.walks(0, 0));
        beyond("walks SUM", 12, x -> x.walks(0, 1));
        beyond("run GOOD", 1, x -> x.run(2, 0, 0));
        beyond("run SUM", 39 * 12, x -> x.run(40, 0, 1));
        beyond("run JOY", 1, x -> x.run(2, 0, 20));
        beyond("run AT", 5, x -> x.run(2, 0, 10));
        beyond("when", 2, x -> x.when(0, 0));
        beyond("row", 1, x -> x.row(2, 1));
        beyond("row, by which", 13, x -> x.row(2, 0));
        beyond("begin", 1, x -> x.begin(2, 0, 1));
        beyond("begin, from which", 0, x -> x.begin(2, 0, 0));
        beyond("holds: BRING", -1, x -> x.holds(1));
        beyond("tells", -1, x -> x.tells(1, 0, 0, 0));
        beyond("tells NUMBERS", 1023, x -> x.tells(1, 0, 0, 2));
        beyond("film", 2, x -> x.film(2, 0, 2));
        beyond("filmed", -1, x -> x.film(2, 0, 2) + x.tells(2, 0, 0, 0) - 2);
        beyond("drawn", 1, x -> x.drawn(3, 40));
        beyond("chance", 1, x -> x.chance(3, 1, 0, 0));
        CountsIfCounted last = countersAt(4);
        last.set(0, 0, 999);
        last.set(1, 0, 4);
        Due.is("holds: BRING on DAY 999", last.holds(1), 0);
    }

    private static void beyond(String call, long due, ToLongFunction<CountsIfCounted> asked) {
        CountsIfCounted x = Due.under("counts 12 * (999 < day); joys 999 < day; goes 5 * (day = 1000);");
        x.person(0, 0, 0, 0);
        x.set(0, 0, 999);
        x.sheet(0, 0, 2);
        Due.row(x, 1, 2, 0, 12);
        Due.is(call, asked.applyAsLong(call.startsWith("run SUM") || call.startsWith("drawn") ? still(x) : x), due);
        Due.is(call + ": truly not", x.told(0, 0), 999);
        Due.is(call + ": truly not", x.day(0), -3);
    }

    /** One who stays AT 0. */
    private static CountsIfCounted still(CountsIfCounted x) {
        Due.is("text", Due.textOf(x, "counts 12 * (999 < day); joys 1; goes 0;"), 2);
        x.force(2);
        return x;
    }

    private static void thoughtIsNotTrue() {
        Due.sentence("n DAYS by one and the same STEP (0 .. 40), in thought");
        CountsIfCounted x = Due.under("counts 12 - joy * (seen < 2); joys good; goes 1;");
        for (int i = 0; i < 5; i++) {
            x.person(i, i, i, i);
        }
        x.day(1);
        Due.row(x, 0, 0, 1, 1, 1);
        String was = Due.all(x);
        x.walks(0, 0);
        x.run(40, 1, 0);
        x.when(5, 1);
        x.row(6, 0);
        x.begin(20, 1, 0);
        x.holds(0);
        x.holds(1);
        for (int what = 0; what <= 7; what++) {
            x.tells(0, 1, 1, what);
        }
        x.film(1, 1, 20);
        x.drawn(1, 40);
        x.chance(1, 20, 1, 0);
        Due.that("all is as it was", was.equals(Due.all(x)));
    }

    private static void runDays() {
        Due.sentence("n DAYS by one and the same STEP (0 .. 40), in thought");
        CountsIfCounted x = countersAt(0, 3);
        for (int n : new int[] {-1, 0, 1, 39, 40, 41}) {
            boolean fits = n >= 0 && n <= 40;
            Due.is(n + " DAYS: SUM", x.run(n, 0, 1), fits ? 12 * n : -2);
            Due.is(n + " DAYS: GOOD", x.run(n, 0, 0), fits ? Math.min(1, n) : -2);
            Due.is(n + " DAYS: JOY", x.run(n, 0, 20), fits ? n : -2);
            Due.is(n + " DAYS: AT", x.run(n, 0, 11), fits ? 3 : -2);
        }
        Due.is("round, on: 5 times AT 3 in 40 DAYS", x.run(40, 1, 21), 5);
        Due.is("round, back", x.run(40, -1, 21), 5);
        for (int step = -2; step <= 2; step++) {
            Due.is("STEP " + step, x.run(0, step, 0), Math.abs(step) == 2 ? -2 : 0);
        }
    }

    private static void runAsks() {
        Due.sentence("where one numbered what less 10 is AT (10 ..), its JOY (what less 20; 20 ..). BAD.");
        for (int people = 0; people <= 5; people++) {
            CountsIfCounted x = new CountsIfCounted();
            for (int i = 0; i < people; i++) {
                x.person(0, 0, 50 + i, i + 2);
            }
            for (int what = -1; what <= 31; what++) {
                int due = what == 0 || what == 1 ? 0
                        : what >= 10 && what < 10 + people ? what - 10 + 2
                        : what >= 20 && what < 20 + people ? what - 20 + 50 : -2;
                Due.is("what " + what + " with " + people, x.run(0, 0, what), due);
            }
        }
    }

    private static void whenDays() {
        Due.sentence("WHEN (a HOUSE): behind how many such DAYS (0 .. 60) it is GOOD first; NONE.");
        for (int last : new int[] {1, 2, 58, 59, 60, 61, 62}) {
            CountsIfCounted x = Due.under("counts 12 * (seen = joy); joys 0; goes 0;");
            x.person(0, 0, last - 1, 0);
            Due.is("GOOD behind " + last, x.when(0, 0), last <= 60 ? last : -1);
        }
        CountsIfCounted x = countersAt(0);
        x.set(2, 0, 128);
        Due.is("GOOD now", x.when(7, 0), 0);
        Due.is("never", x.when(6, 0), -1);
        Due.is("first, not last", x.when(0, 0), 1);
    }

    private static void whenAsks() {
        Due.sentence("WHEN. BAD: no such HOUSE, STEP; NONE.");
        CountsIfCounted x = countersAt(0, 7);
        Due.is("HOUSE -1", x.when(-1, 0), -2);
        Due.is("HOUSE 0", x.when(0, 0), 1);
        Due.is("HOUSE 7, on", x.when(7, 1), 7);
        Due.is("HOUSE 7, back", x.when(7, -1), 1);
        Due.is("HOUSE 8", x.when(8, 0), -2);
        Due.is("STEP -2", x.when(0, -2), -2);
        Due.is("STEP 2", x.when(0, 2), -2);
    }

    // ---- what would be best

    private static void bestRow() {
        Due.sentence("BEST ROW (n 0 .. 6): of all ROWS of n STEPS that by which most HOUSES are GOOD then");
        CountsIfCounted x = countersAt(1, 3, 4, 5, 6);
        int[] good = {0, 1, 1, 2, 3, 4, 5};
        Due.is("n -1", x.row(-1, 0), -2);
        Due.is("n -1", x.row(-1, 1), -2);
        for (int n = 0; n <= 6; n++) {
            Due.is("n " + n + ": how many", x.row(n, 1), bestOf(x, n)[1]);
            Due.is("n " + n + ": by which", x.row(n, 0), bestOf(x, n)[0]);
            Due.is("n " + n + ": by hand", x.row(n, 1), good[n]);
        }
        Due.is("n 6: 6 on", x.row(6, 0), 333333);
        Due.is("n 7", x.row(7, 0), -2);
        Due.is("n 7", x.row(7, 1), -2);
    }

    /** All ROWS, each as a SHEET that is walked, by their order as numbers: -1 is ahead of 0, 0 of 1. */
    private static int[] bestOf(CountsIfCounted x, int n) {
        int rows = (int) Math.pow(3, n);
        int[] best = {0, -1};
        for (int row = 0; row < rows; row++) {
            x.sheet(0, 0, n);
            int digits = 0;
            int rest = row;
            int highest = rows / 3;
            for (int i = 0; i < n; i++) {
                x.cell(0, i, rest / highest - 1);
                digits = digits * 10 + rest / highest + 1;
                rest %= highest;
                highest /= 3;
            }
            int good = Integer.bitCount(x.walks(0, 0));
            if (good > best[1]) {
                best = new int[] {digits, good};
            }
        }
        return best;
    }

    private static void likeRows() {
        Due.sentence("of like ones the first by its first STEP (-1, then 0, then 1), then the next one");
        int[] all = {0, 1, 11, 111, 1111, 11111, 111111};
        for (int n = 0; n <= 6; n++) {
            Due.is("nobody, " + n, new CountsIfCounted().row(n, 0), all[n]);
        }
        Due.is("AT 0, 1", countersAt(0).row(1, 0), 2);
        Due.is("AT 1, 1", countersAt(1).row(1, 0), 3);
        Due.is("AT 7, 1", countersAt(7).row(1, 0), 1);
        Due.is("AT 0, 2: back and on", countersAt(0).row(2, 0), 13);
        Due.is("AT 1, 2: 0 and on", countersAt(1).row(2, 0), 23);
        Due.is("AT 7, 2: back and back", countersAt(7).row(2, 0), 11);
        Due.is("AT 2, 3: 0, on, on", countersAt(2).row(3, 0), 233);
        Due.is("AT 1 and 7, 1: back", countersAt(1, 7).row(1, 0), 1);
        Due.is("AT 0 and 1, 1: 0", countersAt(0, 1).row(1, 0), 2);
    }

    private static void noSteps() {
        Due.sentence("as digits (2 more than each STEP, the first the highest; n 0: 0); how many.");
        for (int good : new int[] {0, 1, 254, 255}) {
            CountsIfCounted x = countersAt(0);
            x.set(2, 0, good);
            Due.is("n 0", x.row(0, 0), 0);
            Due.is("n 0, how many", x.row(0, 1), Integer.bitCount(good));
        }
        Due.is("the first the highest", countersAt(1, 2).row(3, 0), 233);
        Due.is("the first the highest", countersAt(0, 7, 2).row(3, 0), 123);
        Due.is("what -1", countersAt(0).row(0, -1), -2);
        Due.is("what 2", countersAt(0).row(0, 2), -2);
    }

    private static void beginDays() {
        Due.sentence("BEGIN (n 0 .. 20, STEP): the HOUSE such that, were THE CLERK AT it now");
        CountsIfCounted x = Due.under("counts 12 * (number * 10 + joy = seen); joys 0; goes 0;");
        x.person(0, 1, 8, 5);
        x.person(0, 1, 9, 2);
        for (int n : new int[] {-1, 0, 1, 18, 19, 20, 21}) {
            int house = n == 19 ? 5 : n == 20 ? 2 : 0;
            boolean fits = n >= 0 && n <= 20;
            Due.is("n " + n, x.begin(n, 0, 0), fits ? house : -2);
            Due.is("n " + n + ", how many", x.begin(n, 0, 1), fits ? n >= 19 ? 1 : 0 : -2);
        }
        Due.is("what -1", x.begin(1, 0, -1), -2);
        Due.is("what 2", x.begin(1, 0, 2), -2);
        Due.is("STEP -2", x.begin(1, -2, 0), -2);
        Due.is("STEP 2", x.begin(1, 2, 0), -2);
    }

    private static void likeBegins() {
        Due.sentence("most would be GOOD behind n DAYS by that STEP; of like ones the first.");
        CountsIfCounted x = countersAt(3, 6);
        x.set(1, 0, 6);
        x.set(2, 0, 1);
        Due.is("no DAYS: the first", x.begin(0, 0, 0), 0);
        Due.is("no DAYS, how many", x.begin(0, 0, 1), 1);
        Due.is("two like ones", x.begin(1, 0, 0), 3);
        Due.is("two like ones, how many", x.begin(1, 0, 1), 2);
        Due.is("round: by 1 from 7 on", countersAt(0).begin(1, 1, 0), 7);
        Due.is("round: by -1 from 0 on", countersAt(7).begin(1, -1, 0), 0);
        Due.is("all HOUSES like: the first", countersAt(0, 4, 7).begin(8, 1, 0), 0);
        Due.is("all HOUSES like, how many", countersAt(0, 4, 7).begin(8, 1, 1), 3);
    }

    private static void out() {
        Due.sentence("OUT: who, of those AT THE CLERK's HOUSE, would not MAKE him 12 now (bits).");
        Due.is("nobody", new CountsIfCounted().holds(0), 0);
        CountsIfCounted x = Due.under("counts joy; joys 0; goes 0;");
        for (int joy : new int[] {11, 12, 13, 0, 99}) {
            x.person(0, 0, joy, 7);
        }
        Due.is("nobody there", x.holds(0), 0);
        x.set(1, 0, 7);
        Due.is("all but the one", x.holds(0), 0b11101);
        x.set(5, 4, 0);
        Due.is("and one elsewhere", x.holds(0), 0b01101);
        Due.is("what -1", x.holds(-1), -2);
        Due.is("what 2", x.holds(2), -2);
    }

    private static void bring() {
        Due.sentence("BRING: the one such that, were it AT THE CLERK's HOUSE now, wherever it is, it would be GOOD "
                + "behind a DAY by STEP 0");
        Due.is("nobody", new CountsIfCounted().holds(1), -1);
        Due.is("one who is there", countersAt(0).holds(1), 0);
        Due.is("one elsewhere", countersAt(7).holds(1), 0);
        CountsIfCounted x = new CountsIfCounted();
        x.person(3, 0, 0, 0);
        x.person(0, 0, 0, 7);
        Due.is("a CHILD alone MAKES 24", x.holds(1), -1);
        x.person(1, 0, 0, 7);
        Due.is("with a TWIN 12, but he 6", x.holds(1), -1);
        x.person(3, 0, 0, 7);
        Due.is("with a CHILD both 12", x.holds(1), 3);
        x.set(2, 0, 1);
        Due.is("a GOOD HOUSE is so only as long as all are", x.holds(1), 3);
    }

    private static void bringLike() {
        Due.sentence("it would be GOOD behind a DAY by STEP 0; of like ones the first; NONE.");
        CountsIfCounted x = countersAt(3, 2, 1, 7, 6);
        Due.is("five like ones", x.holds(1), 0);
        for (int i = 0; i < 5; i++) {
            x.set(5, i, 0);
            Due.is("some there", x.holds(1), 0);
        }
        CountsIfCounted y = new CountsIfCounted();
        y.person(2, 1, 0, 4);
        y.person(2, 0, 0, 5);
        y.person(2, 0, 0, 6);
        Due.is("the first who would", y.holds(1), 1);
        y.set(2, 0, 255);
        y.set(3, 1, 1);
        y.set(3, 2, 1);
        Due.is("none", y.holds(1), -1);
    }

    private static void self() {
        Due.sentence("SELF: part 0 above, 1 below the line, in lowest terms. NO: part, TIMES is 0.");
        CountsIfCounted x = new CountsIfCounted();
        x.day(0);
        Due.is("TIMES is 0", x.self(0), NO);
        Due.is("TIMES is 0", x.self(1), NO);
        x.person(2, 9, 0, 0);
        for (int times = 1; times <= 3; times++) {
            x.day(0);
            Due.is("3 by 12 for each, above", x.self(0), 1);
            Due.is("3 by 12 for each, below", x.self(1), 4);
            Due.is("part -1", x.self(-1), NO);
            Due.is("part 2", x.self(2), NO);
        }
        CountsIfCounted none = Due.under("counts 0; joys 0; goes 0;");
        none.person(0, 0, 0, 0);
        none.day(0);
        none.day(0);
        Due.is("SUM 0, above", none.self(0), 0);
        Due.is("SUM 0, below", none.self(1), 1);
        CountsIfCounted most = Due.under("counts 99; joys 0; goes 0;");
        most.person(0, 0, 0, 0);
        most.day(0);
        Due.is("99 by 12, above", most.self(0), 33);
        Due.is("99 by 12, below", most.self(1), 4);
    }

    // ---- told, filmed, drawn

    /** A BLIND one AT 4 would GO to 0 in DAY 0, and MAKE him 12 there from the second DAY on. */
    private static void toldAtMost() {
        Due.sentence("TOLD: a SHEET tells SUM behind 1, 2, .. DAYS by a STEP (20 at most)");
        for (int n : new int[] {0, 1, 19, 20, 21, 40}) {
            for (int sort = 0; sort <= 2; sort++) {
                CountsIfCounted x = countersAt(4);
                x.sheet(0, sort, n);
                for (int what = 0; what <= 7; what++) {
                    int[] due = {-1, n <= 1 ? 63 : 31, 1023, 100, 0, n == 0 ? 255 : 254, n == 0 ? 255 : 239, 1};
                    Due.is("what " + what + " of " + n, x.tells(0, 0, 0, what), n <= 20 ? due[what] : -2);
                }
                Due.is("a ROW of " + n, x.walks(0, 3), n <= 20 ? 0 : -2);
            }
        }
    }

    private static void toldFirst() {
        Due.sentence("the first (from 0) that is otherwise; NONE");
        for (int other = 0; other <= 20; other++) {
            CountsIfCounted x = countersAt(0);
            x.film(0, 0, 20);
            Due.is("a cell", x.cell(0, other, -7), other < 20 ? 1 : -12);
            Due.is("item " + other, x.tells(0, 0, 0, 0), other < 20 ? other : -1);
            x.cell(0, 19, 0);
            Due.is("item " + other + " ahead of the last", x.tells(0, 0, 0, 0), Math.min(19, other));
        }
        CountsIfCounted x = countersAt(0);
        Due.row(x, 0, 2, 12, MAX, 36);
        Due.is("MAX", x.tells(0, 0, 0, 0), 1);
        Due.row(x, 0, 2, MIN);
        Due.is("MIN", x.tells(0, 0, 0, 0), 0);
    }

    private static void toldOfAll() {
        Due.sentence("of one of PEOPLE KINDS (bits 0 .. 5), NUMBERS (bits 0 .. 9), JOYS (of 0 .. 99: how many, the least)");
        CountsIfCounted x = Due.under("counts joy; joys 0; goes 0;");
        x.person(0, 0, 50, 0);
        for (int joy : new int[] {0, 1, 98, 99}) {
            Due.row(x, 0, 2, joy);
            Due.is("JOY " + joy, x.tells(0, 0, 0, 3), 1);
            Due.is("JOY " + joy + " is the least", x.tells(0, 0, 0, 4), joy);
        }
        for (int none : new int[] {-1, 100, 106}) {
            Due.row(x, 0, 2, none);
            int[] due = {0, 0, 0, 0, -1, 0, 0, 0};
            for (int what = 0; what <= 7; what++) {
                Due.is("SUM " + none + ", what " + what, x.tells(0, 0, 0, what), due[what]);
            }
        }
        CountsIfCounted y = new CountsIfCounted();
        y.person(2, 0, 0, 0);
        for (int number = 0; number <= 9; number++) {
            Due.row(y, 0, 2, 12 - number);
            Due.is("NUMBER " + number, y.tells(0, 0, 0, 2), 1 << number);
        }
        Due.row(y, 0, 2, 2);
        Due.is("NUMBER 10 is none", y.tells(0, 0, 0, 2), 0);
        CountsIfCounted z = countersAt(0);
        for (int house = 0; house <= 7; house++) {
            z.set(1, 0, house);
            Due.row(z, 0, 2, 12);
            Due.is("it could be AT " + house, z.tells(0, 0, 0, 5), 1 << house);
            z.set(5, 0, house);
            Due.is("THE CLERK could be AT " + house, z.tells(0, 0, 0, 6), 1 << house);
        }
        for (int text = 1; text <= 5; text++) {
            Due.textOf(z, "counts 12; joys 0; goes 0;");
            Due.is("TEXTS", z.tells(0, 0, 0, 7), (2 << text) - 1);
        }
    }

    private static void filmed() {
        Due.sentence("A SHEET truly becomes SUM behind 1, .., n DAYS by a STEP (n 0 .. 20; ints): n. BAD.");
        for (int n : new int[] {-1, 0, 1, 19, 20, 21}) {
            CountsIfCounted x = countersAt(0);
            x.sheet(1, 2, 40);
            Due.is("n " + n, x.film(0, 0, n), n >= 0 && n <= 20 ? n : -2);
            if (n >= 0 && n <= 20) {
                Due.is("so many", x.cell(0, n, 0), -12);
                Due.is("ints", x.copy(0, 0, 1, 0, n), n);
                Due.is("they are so", x.tells(0, 0, 0, 0), -1);
                Due.is("not one more", x.copy(0, 0, 1, 0, n + 1), -12);
            } else {
                Due.is("it stays missing", x.cell(0, 0, 0), -11);
            }
        }
        CountsIfCounted x = Due.under("counts 99; joys 0; goes 0;");
        for (int i = 0; i < 5; i++) {
            x.person(0, 0, 0, 0);
        }
        for (int day = 0; day < 198; day++) {
            x.day(0);
        }
        x.film(0, 0, 20);
        Due.row(x, 1, 2, 98505, 99000, 99495, 99990, 99999, 99999);
        Due.is("SUM 99999 at most", x.tells(1, 0, 0, 0), -1);
        x.copy(0, 0, 1, 0, 6);
        Due.is("so it is filmed", x.tells(1, 0, 0, 0), -1);
    }

    /** By long, so that the wrapping of an int is made by hand. */
    private static int goodByDraws(long seed, int n, int houses) {
        long z = seed & 0xffffffffL;
        int at = 0;
        int good = 0;
        for (int i = 0; i < n; i++) {
            z = (z * 1103515245L + 12345L) & 0xffffffffL;
            at = Math.floorMod(at + (int) ((z >> 9) % 3) - 1, 8);
            good |= houses & 1 << at;
        }
        return Integer.bitCount(good);
    }

    private static void drawnDays() {
        Due.sentence("DRAWN by a SEED: n DAYS (0 .. 40), in thought");
        CountsIfCounted x = countersAt(7, 1, 2, 6, 5);
        for (int n = -1; n <= 41; n++) {
            boolean fits = n >= 0 && n <= 40;
            Due.is("n " + n, x.drawn(12, n), fits ? goodByDraws(12, n, 0b11100110) : -2);
        }
        x.set(2, 0, 255);
        Due.is("n 0: what is GOOD now", x.drawn(12, 0), 8);
    }

    private static void drawnWraps() {
        Due.sentence("z being z * 1103515245 + 12345 (an int; SEED at first) anew for each");
        CountsIfCounted x = countersAt(7, 1, 2, 6, 0);
        int[] seeds = {MIN, MIN + 1, -2, -1, 0, 1, 2, MAX - 1, MAX, 1 << 30, 123456789, -123456789};
        for (int seed : seeds) {
            for (int n : new int[] {1, 2, 3, 10, 40}) {
                Due.is("SEED " + seed + ", n " + n, x.drawn(seed, n), goodByDraws(seed, n, 0b11000111));
            }
        }
    }

    private static void inSeeds() {
        Due.sentence("IN m seeds (1 .. 20), SEED and each 1 more (an int), 10 DAYS: of these those by which that is "
                + "k (0 .. 8) or more.");
        CountsIfCounted x = countersAt(7, 1, 2, 6, 0);
        for (int m = 0; m <= 21; m++) {
            for (int k = -1; k <= 9; k++) {
                boolean fits = m >= 1 && m <= 20 && k >= 0 && k <= 8;
                int above = 0;
                for (int i = 0; i < m; i++) {
                    above += goodByDraws(40 + i, 10, 0b11000111) >= k ? 1 : 0;
                }
                int terms = gcd(above, m);
                Due.is("m " + m + ", k " + k + ", above", x.chance(40, m, k, 0), fits ? above / terms : NO);
                Due.is("m " + m + ", k " + k + ", below", x.chance(40, m, k, 1), fits ? m / terms : NO);
            }
        }
        Due.is("part -1", x.chance(40, 1, 0, -1), NO);
        Due.is("part 2", x.chance(40, 1, 0, 2), NO);
        x.set(2, 0, 255);
        Due.is("all 8 GOOD, k 8", x.chance(40, 20, 8, 0), 1);
        Due.is("all 8 GOOD, k 8", x.chance(40, 20, 8, 1), 1);
    }

    private static int gcd(int a, int b) {
        return a == 0 ? Math.max(1, b) : gcd(b % a, a);
    }

    private static void seedsWrap() {
        Due.sentence("IN m seeds (1 .. 20), SEED and each 1 more (an int)");
        CountsIfCounted x = countersAt(7, 1, 2, 6, 0);
        for (int seed : new int[] {MAX, MAX - 1, MAX - 9, -1, -10, MIN}) {
            for (int k = 0; k <= 5; k++) {
                int above = 0;
                for (int i = 0; i < 20; i++) {
                    above += goodByDraws((long) seed + i, 10, 0b11000111) >= k ? 1 : 0;
                }
                Due.is("SEED " + seed + ", k " + k, x.chance(seed, 20, k, 0), above / gcd(above, 20));
            }
        }
    }

    // ---- an image

    private static void image() {
        Due.sentence("AN IMAGE keeps GOOD, DAY, THE CLERK (his HOUSE, SUM, TIMES), NUMBERS, JOYS, where all are, how "
                + "often they have SEEN him, THE RULE (PEOPLE that came since go).");
        Due.is("there is none", new CountsIfCounted().back(), -3);
        CountsIfCounted x = countersAt(0, 1);
        Due.textOf(x, "counts 1; joys 2; goes 3;");
        x.day(0);
        String was = Due.all(x);
        Due.is("of 2", x.image(), 2);
        int[][] sets = {{0, 0, 999}, {1, 0, 7}, {2, 0, 255}, {3, 1, 9}, {4, 1, 99}, {5, 1, 7}, {6, 1, 99}};
        for (int[] one : sets) {
            x.set(one[0], one[1], one[2]);
            Due.that("it is another", !was.equals(Due.all(x)));
            Due.is("back to 2", x.back(), 2);
            Due.that("as in THE IMAGE", was.equals(Due.all(x)));
        }
        x.force(1);
        x.back();
        Due.that("THE RULE as in THE IMAGE", was.equals(Due.all(x)));
        x.day(0);
        x.set(0, 0, 0);
        x.back();
        Due.that("SUM, TIMES as in THE IMAGE", was.equals(Due.all(x)));
        Due.is("back of a DAY 999", x.set(0, 0, 999) * 0 + x.back(), 2);
        Due.is("days go on", x.day(0), 1);
    }

    private static void peopleGo() {
        Due.sentence("(PEOPLE that came since go)");
        CountsIfCounted x = new CountsIfCounted();
        Due.is("an IMAGE of nobody", x.image(), 0);
        for (int i = 0; i < 5; i++) {
            Due.is("comes", x.person(5 - i, i, i, i), i);
        }
        Due.is("a sixth", x.person(0, 0, 0, 0), -4);
        Due.is("nobody again", x.back(), 0);
        Due.is("nobody", x.count(0), 0);
        Due.is("none such", x.told(0, 7), -1000);
        Due.is("none such", x.run(0, 0, 10), -2);
        Due.is("none such", x.taken(0, 0), -11);
        Due.is("nobody AT 0", x.told(0, 10), 0);
        for (int i = 0; i < 5; i++) {
            Due.is("comes anew", x.person(i, i, i, i), i);
        }
        Due.is("an IMAGE of 5", x.image(), 5);
        Due.is("back to 5", x.back(), 5);
        Due.is("still FULL", x.person(0, 0, 0, 0), -4);
    }

    // ---- what is empty

    private static void nobody() {
        Due.sentence("THE CLERK AT HOUSE 0, nobody else.");
        CountsIfCounted x = new CountsIfCounted();
        x.sheet(0, 0, 20);
        for (int good : new int[] {0, 0b10100001}) {
            int many = Integer.bitCount(good);
            x.set(2, 0, good);
            Due.is("a DAY", x.day(-1), good);
            Due.is("and back", x.day(1), good);
            Due.is("a ROW: GOOD", x.walks(0, 0), good);
            Due.is("a ROW: SUM", x.walks(0, 1), 0);
            Due.is("a ROW: TIMES", x.walks(0, 2), 0);
            Due.is("DAYS: GOOD", x.run(40, 1, 0), good);
            Due.is("DAYS: SUM", x.run(40, 1, 1), 0);
            Due.is("WHEN", x.when(7, 0), good == 0 ? -1 : 0);
            Due.is("BEST ROW", x.row(6, 0), 111111);
            Due.is("BEST ROW, how many", x.row(6, 1), many);
            Due.is("BEGIN", x.begin(20, -1, 0), 0);
            Due.is("BEGIN, how many", x.begin(20, -1, 1), many);
            Due.is("OUT", x.holds(0), 0);
            Due.is("BRING", x.holds(1), -1);
            Due.is("SELF", x.self(0), NO);
            Due.is("a film", x.film(1, 1, 20), 20);
            Due.is("DRAWN", x.drawn(77, 40), many);
            Due.is("IN 20 seeds", x.chance(77, 20, 1, 0), many == 0 ? 0 : 1);
            Due.is("IN 20 seeds, below", x.chance(77, 20, 1, 1), 1);
            Due.is("AN IMAGE", x.image(), 0);
            Due.is("back", x.back(), 0);
            for (int what = 0; what <= 7; what++) {
                Due.is("TOLD of none such", x.tells(0, 0, 0, what), -2);
            }
            for (int house = 0; house <= 7; house++) {
                Due.is("AT " + house, x.told(house, 10), 0);
            }
        }
    }

    private static void noDays() {
        Due.sentence("n DAYS by one and the same STEP (0 .. 40), in thought: which are GOOD; SUM; where one is AT; JOY.");
        CountsIfCounted x = countersAt(3, 4);
        x.set(1, 0, 3);
        x.day(0);
        x.set(2, 0, 0b1001);
        x.set(4, 0, 99);
        for (int step = -1; step <= 1; step++) {
            Due.is("GOOD", x.run(0, step, 0), 0b1001);
            Due.is("SUM", x.run(0, step, 1), 12);
            Due.is("AT", x.run(0, step, 11), 4);
            Due.is("JOY", x.run(0, step, 20), 99);
            Due.is("WHEN, 0 DAYS", x.when(0, step), 0);
            Due.is("BEGIN", x.begin(0, step, 0), 0);
            Due.is("BEGIN, how many", x.begin(0, step, 1), 2);
            Due.is("a film of none", x.film(0, step, 0), 0);
            Due.is("a film of none is otherwise nowhere", x.tells(0, 0, step, 0), -1);
        }
        Due.is("DRAWN", x.drawn(5, 0), 2);
        Due.is("BEST ROW", x.row(0, 0), 0);
        Due.is("BEST ROW, how many", x.row(0, 1), 2);
    }

    private static void nothingTold() {
        Due.sentence("A ROW of STEPS a SHEET tells, in thought");
        for (int sort = 0; sort <= 2; sort++) {
            CountsIfCounted x = countersAt(0, 0);
            x.day(0);
            x.set(1, 0, 7);
            x.sheet(2, sort, 0);
            int[] walked = {1, 24, 2, 7};
            for (int what = 0; what <= 3; what++) {
                Due.is("a ROW of none, what " + what, x.walks(2, what), walked[what]);
            }
            int[] told = {-1, 63, 1023, 100, 0, 255, 255, 1};
            for (int what = 0; what <= 7; what++) {
                Due.is("nothing TOLD, what " + what, x.tells(2, 1, 1, what), told[what]);
            }
        }
    }

    private static void noneKeptYet() {
        Due.sentence("STATE: there is none.");
        CountsIfCounted x = countersAt(0, 1, 2, 3, 4);
        String was = Due.all(x);
        Due.is("none yet", x.back(), -3);
        x.day(1);
        Due.is("none yet", x.back(), -3);
        Due.that("days go on", !was.equals(Due.all(x)));
        Due.is("kept", x.image(), 5);
        Due.is("there is one", x.back(), 5);
        Due.is("there is one still", x.back(), 5);
    }
}
