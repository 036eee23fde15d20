/** Promises 1 to 4: a new object, set, person, told. */
final class CountryTest {
    private static final int MIN = Integer.MIN_VALUE, MAX = Integer.MAX_VALUE;

    public static void main(String[] args) {
        newObject();
        people();
        setting();
        setRefuses();
        toldRefuses();
        makes();
        makesAlone();
        makesByRule();
        goes();
        Due.end();
    }

    private static void newObject() {
        CountsIfCounted x = new CountsIfCounted();
        Due.is("1: DAY", x.told(0, 0), 0);
        Due.is("1: CLERK", x.told(0, 1), 0);
        Due.is("1: GOOD", x.told(0, 2), 0);
        Due.is("1: SUM", x.told(0, 11), 0);
        Due.is("1: TIMES", x.told(0, 12), 0);
        Due.is("1: PEOPLE", x.count(0), 0);
        Due.is("1: TEXTS", x.count(3), 1);
        Due.is("1: TAPE", x.count(4), 0);
        Due.is("1: RULE", x.count(5), 0);
        Due.is("1: no IMAGE", x.back(), -3);
        for (int house = 0; house < 8; house++) {
            Due.is("1: nobody", x.told(house, 10), 0);
        }
        for (int sheet = 0; sheet < 4; sheet++) {
            Due.is("1: SHEETS are missing", x.cell(sheet, 0, 0), -11);
        }
    }

    private static void people() {
        CountsIfCounted x = new CountsIfCounted();
        int[][] bad = {{-1, 0, 0, 0}, {6, 0, 0, 0}, {0, -1, 0, 0}, {0, 10, 0, 0}, {0, 0, -1, 0}, {0, 0, 100, 0},
            {0, 0, 0, -1}, {0, 0, 0, 8}, {MIN, 0, 0, 0}, {MAX, 0, 0, 0}, {0, MIN, 0, 0}, {0, 0, MAX, 0}, {0, 0, 0, MIN}};
        for (int[] one : bad) {
            Due.is("3: BAD", x.person(one[0], one[1], one[2], one[3]), -2);
        }
        Due.is("3: none came", x.count(0), 0);
        for (int i = 0; i < 5; i++) {
            Due.is("3: the number", x.person(i + 1, 9 - i, 99 - i, 7 - i), i);
            Due.is("3: KIND", x.told(i, 7), i + 1);
            Due.is("3: NUMBER", x.told(i, 3), 9 - i);
            Due.is("3: JOY", x.told(i, 4), 99 - i);
            Due.is("3: AT", x.told(i, 5), 7 - i);
            Due.is("3: SEEN", x.told(i, 6), 0);
        }
        Due.is("3: BAD is ahead of FULL", x.person(6, 0, 0, 0), -2);
        Due.is("3: FULL", x.person(0, 0, 0, 0), -4);
        Due.is("3: no sixth", x.count(0), 5);
        for (int house = 0; house < 8; house++) {
            Due.is("4: who is AT", x.told(house, 10), house < 3 ? 0 : 1 << (7 - house));
        }
    }

    private static void setting() {
        CountsIfCounted x = new CountsIfCounted();
        x.person(0, 1, 2, 3);
        x.person(2, 4, 5, 6);
        Due.is("2: DAY was", x.set(0, MAX, 999), 0);
        Due.is("2: DAY was", x.set(0, MIN, 3), 999);
        Due.is("4: DAY is", x.told(MIN, 0), 3);
        Due.is("2: CLERK was", x.set(1, -9, 7), 0);
        Due.is("4: CLERK is", x.told(MAX, 1), 7);
        Due.is("2: GOOD was", x.set(2, -9, 255), 0);
        Due.is("4: GOOD is", x.told(-1, 2), 255);
        Due.is("2: GOOD was", x.set(2, 50, 6), 255);
        Due.is("2: NUMBER was", x.set(3, 1, 9), 4);
        Due.is("4: NUMBER is", x.told(1, 3), 9);
        Due.is("4: another's NUMBER stays", x.told(0, 3), 1);
        Due.is("2: JOY was", x.set(4, 1, 99), 5);
        Due.is("4: JOY is", x.told(1, 4), 99);
        Due.is("2: AT was", x.set(5, 1, 3), 6);
        Due.is("4: AT is", x.told(1, 5), 3);
        Due.is("4: both are AT 3", x.told(3, 10), 3);
        Due.is("2: SEEN was", x.set(6, 1, 99), 0);
        Due.is("4: SEEN is", x.told(1, 6), 99);
        Due.is("4: another's SEEN stays", x.told(0, 6), 0);
    }

    private static void setRefuses() {
        CountsIfCounted x = new CountsIfCounted();
        x.person(0, 1, 2, 3);
        String was = Due.all(x);
        int[][] bad = {{-1, 0, 0}, {7, 0, 0}, {0, 0, -1}, {0, 0, 1000}, {1, 0, -1}, {1, 0, 8}, {2, 0, -1}, {2, 0, 256},
            {3, 0, -1}, {3, 0, 10}, {4, 0, -1}, {4, 0, 100}, {5, 0, -1}, {5, 0, 8}, {6, 0, -1}, {6, 0, 100},
            {3, 1, 0}, {4, 1, 0}, {5, 1, 0}, {6, 1, 0}, {3, -1, 0}, {6, MIN, 0}, {4, MAX, 0}, {MAX, 0, 0}, {MIN, 0, 0}};
        for (int[] one : bad) {
            Due.is("2: BAD", x.set(one[0], one[1], one[2]), -2);
        }
        Due.that("2: BAD changes nothing", was.equals(Due.all(x)));
    }

    private static void toldRefuses() {
        CountsIfCounted x = new CountsIfCounted();
        x.person(0, 1, 2, 3);
        int[][] bad = {{0, -1}, {0, 13}, {0, MIN}, {0, MAX}, {-1, 10}, {8, 10}, {MAX, 10}};
        for (int[] one : bad) {
            Due.is("4: none such", x.told(one[0], one[1]), -1000);
        }
        for (int what = 3; what <= 9; what++) {
            Due.is("4: none such", x.told(1, what), -1000);
            Due.is("4: none such", x.told(-1, what), -1000);
        }
        Due.is("4: SUM of anything", x.told(-5, 11), 0);
        Due.is("4: TIMES of anything", x.told(99, 12), 0);
    }

    private static void makes() {
        CountsIfCounted x = new CountsIfCounted();
        x.person(0, 5, 0, 1);
        x.person(1, 5, 0, 1);
        x.person(3, 5, 0, 1);
        x.person(2, 5, 0, 1);
        x.person(4, 5, 0, 1);
        int[] due = {12, 6, 12, 7, 7};
        for (int i = 0; i < due.length; i++) {
            Due.is("MAKES", x.told(i, 8), due[i]);
        }
        x.set(5, 2, 2);
        Due.is("MAKES: a TWIN alone among others", x.told(1, 8), 12);
        Due.is("MAKES: a CHILD alone", x.told(2, 8), 24);
        x.set(5, 1, 2);
        Due.is("MAKES: a TWIN with a CHILD", x.told(1, 8), 6);
        x.set(5, 4, 7);
        Due.is("MAKES: a WIDOW alone", x.told(4, 8), 13);
    }

    private static void makesAlone() {
        CountsIfCounted x = new CountsIfCounted();
        x.person(5, 2, 0, 0);
        Due.is("MAKES: BLIND, not yet", x.told(0, 8), 0);
        x.set(6, 0, 1);
        Due.is("MAKES: BLIND, not yet", x.told(0, 8), 0);
        x.set(6, 0, 2);
        Due.is("MAKES: BLIND, as often", x.told(0, 8), 12);
        x.set(6, 0, 3);
        Due.is("MAKES: BLIND, more often", x.told(0, 8), 12);
        for (int i = 0; i < 4; i++) {
            x.person(i < 2 ? 1 : 3, 0, 0, 3);
        }
        x.set(5, 0, 3);
        Due.is("MAKES: 12 by 4 TWINS", x.told(1, 8), 3);
        Due.is("MAKES: 12 by 4 CHILDREN", x.told(3, 8), 6);
    }

    private static void makesByRule() {
        CountsIfCounted x = Due.under("counts joy * 10 - 20; joys 0; goes 0;");
        x.person(0, 0, 11, 0);
        x.person(0, 0, 12, 0);
        x.person(0, 0, 1, 0);
        x.person(3, 0, 99, 1);
        x.person(4, 9, 2, 2);
        Due.is("MAKES: counts", x.told(0, 8), 90);
        Due.is("MAKES: counts 99 at most", x.told(1, 8), 99);
        Due.is("MAKES: counts 0 at least", x.told(2, 8), 0);
        Due.is("MAKES: twice 99 is 99 at most", x.told(3, 8), 99);
        Due.is("MAKES: an ENEMY's is 0 at least ahead of a WIDOW's 6", x.told(4, 8), 6);
        x.set(4, 4, 99);
        x.set(3, 4, 2);
        Due.is("MAKES: a WIDOW's 99 - 2 + 6 is 99 at most", x.told(4, 8), 99);
        CountsIfCounted z = Due.under("counts 5; joys 0; goes 0;");
        z.person(2, 9, 0, 0);
        z.person(2, 5, 0, 0);
        z.person(2, 4, 0, 0);
        z.person(4, 9, 0, 0);
        Due.is("MAKES: an ENEMY's is 0 at least", z.told(0, 8), 0);
        Due.is("MAKES: an ENEMY's is 0", z.told(1, 8), 0);
        Due.is("MAKES: an ENEMY's is 1", z.told(2, 8), 1);
        Due.is("MAKES: a WIDOW's among others is 0 at least", z.told(3, 8), 0);
        CountsIfCounted y = Due.under("counts 25; joys 0; goes 0;");
        y.person(1, 0, 0, 0);
        y.person(3, 0, 0, 0);
        Due.is("MAKES: 25 by 2, cut", y.told(0, 8), 12);
        Due.is("MAKES: twice what is cut", y.told(1, 8), 24);
    }

    private static void goes() {
        CountsIfCounted x = Due.under("counts 12; joys 0; goes number - 7;");
        x.person(0, 2, 0, 0);
        x.person(1, 2, 99, 0);
        x.person(2, 2, 0, 0);
        x.person(3, 2, 50, 0);
        x.person(4, 2, 0, 0);
        int[] due = {995, 1000, 1005, 1000, 1002};
        for (int i = 0; i < due.length; i++) {
            Due.is("GOES", x.told(i, 9), due[i]);
        }
        x.set(4, 3, 51);
        Due.is("GOES: a glad CHILD", x.told(3, 9), 1001);
        x.set(3, 4, 9);
        Due.is("GOES: half of -2", x.told(4, 9), 999);
        x.set(3, 4, 8);
        Due.is("GOES: half of -1, cut toward 0", x.told(4, 9), 1000);
        CountsIfCounted y = Due.under("counts 0; joys 0; goes (number - 5) * 25;");
        y.person(0, 0, 0, 0);
        y.person(0, 9, 0, 0);
        y.person(2, 0, 0, 0);
        y.person(5, 0, 0, 0);
        Due.is("GOES: -99 at least", y.told(0, 9), 901);
        Due.is("GOES: 99 at most", y.told(1, 9), 1099);
        Due.is("GOES: 0 less -99", y.told(2, 9), 1099);
        for (int day = 0; day < 11; day++) {
            y.set(0, 0, day);
            Due.is("GOES: BLIND by days", y.told(3, 9), day % 5 == 0 ? 1004 : 1000);
        }
    }
}
