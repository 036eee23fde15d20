/** Promises 16 to 22: tells, film, drawn, chance, image, back, count. */
final class ToldTest {
    private static final int MIN = Integer.MIN_VALUE, MAX = Integer.MAX_VALUE;
    private static final long NO = -4611686018427387904L;

    public static void main(String[] args) {
        firstOther();
        kindsAndNumbers();
        joys();
        houses();
        texts();
        tellsRefuses();
        film();
        filmRefuses();
        drawn();
        chance();
        imageAndBack();
        peopleThatCameGo();
        count();
        Due.end();
    }

    private static void firstOther() {
        CountsIfCounted x = new CountsIfCounted();
        x.person(0, 0, 0, 1);
        x.person(2, 2, 9, 2);
        String was = Due.all(x);
        Due.row(x, 0, 0, 12, 22, 22);
        Due.is("16: all are so", x.tells(0, 0, 1, 0), -1);
        Due.row(x, 0, 1, 12, 22, 23);
        Due.is("16: the third is otherwise", x.tells(0, 0, 1, 0), 2);
        Due.row(x, 0, 2, 11, 22, 23);
        Due.is("16: the first is otherwise", x.tells(0, 0, 1, 0), 0);
        Due.row(x, 0, 2, 0, 0);
        Due.is("16: by another STEP", x.tells(0, 0, 0, 0), -1);
        x.sheet(0, 0, 0);
        Due.is("16: nothing told", x.tells(0, 0, 0, 0), -1);
        x.sheet(0, 0, 20);
        Due.is("16: 20", x.tells(0, 1, 0, 0), -1);
        Due.that("16: in thought", was.equals(Due.all(x)));
    }

    private static void kindsAndNumbers() {
        CountsIfCounted x = new CountsIfCounted();
        x.person(2, 4, 30, 0);
        x.person(1, 0, 0, 7);
        Due.row(x, 0, 2, 8, 16);
        Due.is("16: KINDS of 8", x.tells(0, 0, 0, 1), 1 << 2);
        Due.is("16: NUMBERS of 8", x.tells(0, 0, 0, 2), 1 << 4);
        Due.row(x, 0, 2, 12, 24);
        Due.is("16: KINDS of 12", x.tells(0, 0, 0, 1), 1 << 0 | 1 << 1);
        Due.is("16: NUMBERS of 12", x.tells(0, 0, 0, 2), 1);
        Due.row(x, 0, 2, 14, 28);
        Due.is("16: KINDS: a WIDOW alone", x.tells(0, 0, 0, 1), 1 << 4);
        Due.row(x, 0, 2, 24, 48);
        Due.is("16: KINDS: a CHILD", x.tells(0, 0, 0, 1), 1 << 3);
        x.set(6, 0, 3);
        x.set(0, 0, 1);
        Due.row(x, 0, 2, 0, 12);
        Due.is("16: KINDS: a BLIND one", x.tells(0, 0, 0, 1), 1 << 5);
        Due.row(x, 0, 2, 1, 2);
        Due.is("16: none", x.tells(0, 0, 0, 1), 0);
        Due.is("16: none", x.tells(0, 0, 0, 2), 0);
        Due.is("16: its KIND stays", x.told(0, 7), 2);
        Due.is("16: its NUMBER stays", x.told(0, 3), 4);
        x.set(5, 0, 5);
        Due.row(x, 0, 2, 0);
        Due.is("16: whom he doesn't meet: all KINDS", x.tells(0, 0, 0, 1), 63);
        Due.is("16: all NUMBERS", x.tells(0, 0, 0, 2), 1023);
    }

    private static void joys() {
        CountsIfCounted x = Due.under("counts joy < 30; joys 1; goes 0;");
        x.person(0, 0, 50, 0);
        Due.row(x, 0, 2, 1, 2, 3);
        Due.is("16: JOYS, how many", x.tells(0, 0, 0, 3), 28);
        Due.is("16: JOYS, the least", x.tells(0, 0, 0, 4), 0);
        Due.row(x, 0, 2, 1, 2, 2);
        Due.is("16: JOYS, how many", x.tells(0, 0, 0, 3), 1);
        Due.is("16: JOYS, the least", x.tells(0, 0, 0, 4), 28);
        Due.row(x, 0, 2, 0);
        Due.is("16: JOYS, how many", x.tells(0, 0, 0, 3), 70);
        Due.is("16: JOYS, the least", x.tells(0, 0, 0, 4), 30);
        Due.row(x, 0, 2, 5);
        Due.is("16: JOYS, none", x.tells(0, 0, 0, 3), 0);
        Due.is("16: JOYS, no least", x.tells(0, 0, 0, 4), -1);
        Due.is("16: its JOY stays", x.told(0, 4), 50);
    }

    private static void houses() {
        CountsIfCounted x = new CountsIfCounted();
        x.person(0, 0, 0, 0);
        x.person(2, 3, 0, 4);
        x.set(1, 0, 2);
        Due.row(x, 0, 0, 0, 12);
        Due.is("16: HOUSES it could be AT", x.tells(0, 0, 1, 5), 0);
        Due.row(x, 0, 0, 12, 21);
        Due.is("16: HOUSES it could be AT", x.tells(0, 0, 1, 5), 8);
        Due.row(x, 0, 0, 0, 21);
        Due.is("16: HOUSES it could be AT", x.tells(0, 0, 1, 5), 16);
        Due.row(x, 0, 0, 0, 9);
        Due.is("16: HOUSES THE CLERK could be AT", x.tells(0, 0, 1, 6), 4);
        Due.row(x, 0, 0, 12, 12);
        Due.is("16: HOUSES THE CLERK could be AT", x.tells(0, 1, 1, 6), 128);
        Due.row(x, 0, 0, 0);
        Due.is("16: HOUSES THE CLERK could be AT", x.tells(0, 1, 1, 6), 255 - 128 - 8);
        Due.is("16: it stays", x.told(0, 5), 0);
        Due.is("16: THE CLERK stays", x.told(0, 1), 2);
    }

    private static void texts() {
        CountsIfCounted x = new CountsIfCounted();
        Due.textOf(x, "counts 3; joys 1; goes 0;");
        Due.textOf(x, "counts 12; joys 1; goes 1;");
        Due.textOf(x, "counts 3 + 0; joys 1; goes 0;");
        x.person(0, 0, 0, 0);
        Due.row(x, 0, 0, 3, 6);
        Due.is("16: TEXTS of 3", x.tells(0, 0, 0, 7), 2 + 8);
        Due.row(x, 0, 0, 12, 12);
        Due.is("16: TEXTS of 12, gone", x.tells(0, 0, 0, 7), 4);
        Due.row(x, 0, 0, 12);
        Due.is("16: TEXTS of 12", x.tells(0, 0, 0, 7), 1 + 4);
        x.sheet(0, 0, 0);
        Due.is("16: TEXTS of nothing", x.tells(0, 0, 0, 7), 15);
        Due.is("16: THE RULE stays", x.count(5), 0);
    }

    private static void tellsRefuses() {
        CountsIfCounted x = new CountsIfCounted();
        Due.is("16: none such is ahead of -11", x.tells(0, 0, 0, 0), -2);
        x.person(0, 0, 0, 0);
        Due.is("16: -11", x.tells(0, 0, 0, 0), -11);
        int[][] bad = {{-1, 0, 0, 0}, {4, 0, 0, 0}, {0, -1, 0, 0}, {0, 1, 0, 0}, {0, 0, -2, 0}, {0, 0, 2, 0},
            {0, 0, 0, -1}, {0, 0, 0, 8}, {MAX, 0, 0, 0}, {0, MIN, 0, 0}, {0, 0, MAX, 0}, {0, 0, 0, MIN}, {0, 0, 0, MAX}};
        for (int[] one : bad) {
            Due.is("16: BAD", x.tells(one[0], one[1], one[2], one[3]), -2);
        }
        x.sheet(0, 0, 21);
        Due.is("16: BAD: more than 20", x.tells(0, 0, 0, 0), -2);
    }

    private static void film() {
        CountsIfCounted x = new CountsIfCounted();
        x.person(3, 0, 0, 0);
        x.person(0, 0, 0, 2);
        String was = Due.all(x);
        Due.is("17: n", x.film(3, 1, 4), 4);
        Due.that("17: the country is as it was", was.equals(Due.all(x)));
        Due.is("17: SUMS are told", x.tells(3, 0, 1, 0), -1);
        Due.is("17: 4 of them", x.cell(3, 3, 9), 1);
        Due.is("17: not 5", x.cell(3, 4, 0), -12);
        Due.row(x, 0, 2, 0, 12, 12, 12);
        Due.is("17: ints, as they are told by hand", x.copy(0, 0, 3, 0, 4), 4);
        Due.is("17: they are so", x.tells(0, 0, 1, 0), -1);
        Due.is("17: 20", x.film(0, 0, 20), 20);
        Due.is("17: 20 of them", x.cell(0, 19, 0), 1);
        Due.is("17: none", x.film(0, 0, 0), 0);
        Due.is("17: none of them", x.cell(0, 0, 0), -12);
        Due.is("17: a row of none, not missing", x.walks(0, 1), 0);
    }

    private static void filmRefuses() {
        CountsIfCounted x = new CountsIfCounted();
        Due.row(x, 0, 0, 1, 0, 1);
        int[][] bad = {{-1, 0, 0}, {4, 0, 0}, {0, -2, 0}, {0, 2, 0}, {0, 0, -1}, {0, 0, 21}, {MIN, 0, 0},
            {MAX, 0, 0}, {0, MIN, 0}, {0, MAX, 0}, {0, 0, MIN}, {0, 0, MAX}};
        for (int[] one : bad) {
            Due.is("17: BAD", x.film(one[0], one[1], one[2]), -2);
        }
        Due.is("17: BAD changes no SHEET", x.walks(0, 3), 2);
    }

    private static int goodByHand(int seed, int n, boolean[] isThere) {
        boolean[] good = new boolean[8];
        long z = seed;
        int at = 0;
        int many = 0;
        for (int i = 0; i < n; i++) {
            z = (z * 1103515245L + 12345L) & 0xffffffffL;
            at = (int) ((at + (z >> 9) % 3 - 1 + 8) % 8);
            if (isThere[at] && !good[at]) {
                good[at] = true;
                many++;
            }
        }
        return many;
    }

    private static void drawn() {
        CountsIfCounted x = new CountsIfCounted();
        boolean[] isThere = new boolean[8];
        for (int house : new int[] {7, 0, 1, 2, 6}) {
            x.person(0, 0, 0, house);
            isThere[house] = true;
        }
        String was = Due.all(x);
        for (int seed : new int[] {0, 1, 2, 3, -1, -77, 4711, MAX, MIN}) {
            for (int n = 0; n <= 40; n += 5) {
                Due.is("18: DRAWN " + seed + " " + n, x.drawn(seed, n), goodByHand(seed, n, isThere));
            }
        }
        for (int n : new int[] {-1, 41, MIN, MAX}) {
            Due.is("18: BAD", x.drawn(0, n), -2);
        }
        Due.that("18: in thought", was.equals(Due.all(x)));
    }

    private static void chance() {
        CountsIfCounted x = new CountsIfCounted();
        boolean[] isThere = new boolean[8];
        for (int house : new int[] {7, 0, 1, 2, 6}) {
            x.person(0, 0, 0, house);
            isThere[house] = true;
        }
        String was = Due.all(x);
        for (int seed : new int[] {0, 5, -8, MAX - 3, MIN}) {
            for (int m = 1; m <= 20; m++) {
                for (int k = 0; k <= 8; k++) {
                    int above = 0;
                    for (int i = 0; i < m; i++) {
                        above += goodByHand(seed + i, 10, isThere) >= k ? 1 : 0;
                    }
                    int terms = terms(above, m);
                    Due.is("19: above", x.chance(seed, m, k, 0), above / terms);
                    Due.is("19: below", x.chance(seed, m, k, 1), m / terms);
                }
            }
        }
        int[][] bad = {{0, 0, 0}, {21, 0, 0}, {-1, 0, 0}, {1, -1, 0}, {1, 9, 0}, {1, 0, -1}, {1, 0, 2},
            {MIN, 0, 0}, {MAX, 0, 0}, {1, MIN, 0}, {1, MAX, 0}, {1, 0, MIN}, {1, 0, MAX}};
        for (int[] one : bad) {
            Due.is("19: NO", x.chance(0, one[0], one[1], one[2]), NO);
        }
        Due.that("19: in thought", was.equals(Due.all(x)));
    }

    private static int terms(int above, int below) {
        for (int t = below; t > 1; t--) {
            if (above % t == 0 && below % t == 0) {
                return t;
            }
        }
        return 1;
    }

    private static void imageAndBack() {
        CountsIfCounted x = new CountsIfCounted();
        Due.is("21: STATE", x.back(), -3);
        x.person(0, 1, 2, 3);
        x.person(5, 6, 7, 0);
        Due.textOf(x, "counts 1;joys 2;goes 3;");
        x.set(2, 0, 170);
        x.day(0);
        String was = Due.all(x);
        Due.is("20: how many", x.image(), 2);
        Due.that("20: nothing changes", was.equals(Due.all(x)));
        x.force(1);
        x.day(1);
        x.day(1);
        x.set(3, 0, 9);
        x.set(2, 0, 0);
        Due.is("21: how many", x.back(), 2);
        Due.that("21: all is as it was", was.equals(Due.all(x)));
        x.day(-1);
        x.set(6, 1, 50);
        Due.is("21: again", x.back(), 2);
        Due.that("21: all is as it was again", was.equals(Due.all(x)));
        x.day(0);
        String later = Due.all(x);
        x.image();
        x.day(0);
        x.back();
        Due.that("20: a later IMAGE is THE IMAGE", later.equals(Due.all(x)));
    }

    private static void peopleThatCameGo() {
        CountsIfCounted x = new CountsIfCounted();
        x.person(0, 0, 0, 0);
        x.image();
        x.person(2, 5, 5, 0);
        x.set(6, 1, 7);
        Due.textOf(x, "counts 1;joys 1;goes 1;");
        x.feed('c');
        Due.row(x, 0, 0, 1);
        Due.is("21: who came goes", x.back(), 1);
        Due.is("21: is none such", x.told(1, 7), -1000);
        Due.is("21: nor AT a HOUSE", x.told(0, 10), 1);
        Due.is("21: TEXTS stay", x.count(3), 2);
        Due.is("21: THE TAPE stays", x.count(4), 1);
        Due.is("21: SHEETS stay", x.walks(0, 3), 1);
        Due.is("21: another comes", x.person(4, 1, 1, 1), 1);
        Due.is("21: it has not SEEN him", x.told(1, 6), 0);
        Due.is("21: it is of its own KIND", x.told(1, 7), 4);
        CountsIfCounted y = new CountsIfCounted();
        Due.is("20: an IMAGE of none", y.image(), 0);
        y.person(0, 0, 0, 0);
        Due.is("21: back to none", y.back(), 0);
        Due.is("21: none", y.count(0), 0);
    }

    private static void count() {
        CountsIfCounted x = new CountsIfCounted();
        x.person(0, 0, 0, 0);
        x.person(0, 0, 0, 0);
        x.set(0, 0, 345);
        x.set(2, 0, 0b1011);
        Due.textOf(x, "counts 1;joys 1;goes 1;");
        Due.textOf(x, "counts 1;joys 1;goes 1;");
        x.force(2);
        for (int i = 0; i < 7; i++) {
            x.feed(i);
        }
        int[] due = {2, 3, 345, 3, 7, 2};
        for (int what = 0; what < due.length; what++) {
            Due.is("22: " + what, x.count(what), due[what]);
        }
        for (int what : new int[] {-1, 6, MIN, MAX}) {
            Due.is("22: BAD", x.count(what), -2);
        }
    }
}
