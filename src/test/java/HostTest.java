/** Promises 23 to 27: sheet, cell, copy, census, taken. */
final class HostTest {
    private static final int MIN = Integer.MIN_VALUE, MAX = Integer.MAX_VALUE;

    public static void main(String[] args) {
        sheets();
        sheetRefuses();
        cells();
        cellBits();
        copies();
        copyRefuses();
        census();
        censusRefuses();
        censusOutside();
        taken();
        Due.end();
    }

    /** Of what sort a SHEET is: numbers come only to one of the same sort. */
    private static int sortOf(CountsIfCounted x, int sheet) {
        for (int sort = 0; sort <= 2; sort++) {
            x.sheet(3, sort, 1);
            if (x.copy(sheet, 0, 3, 0, 1) == 1) {
                return sort;
            }
        }
        return -1;
    }

    private static void sheets() {
        CountsIfCounted x = new CountsIfCounted();
        Due.is("23: is missing", x.walks(0, 0), -11);
        Due.is("23: a row of none", x.sheet(0, 0, 0), 1);
        Due.is("23: is there", x.walks(0, 0), 0);
        for (int sort = 0; sort <= 2; sort++) {
            Due.is("23: of 40", x.sheet(sort, sort, 40), 1);
            Due.is("23: the last item", x.cell(sort, 39, 1), 1);
            Due.is("23: no more", x.cell(sort, 40, 1), -12);
            Due.is("23: of that sort", sortOf(x, sort), sort);
        }
        Due.row(x, 0, 0, 1, 1, 1);
        Due.is("23: STEPS", x.walks(0, 3), 3);
        Due.is("23: anew", x.sheet(0, 0, 5), 1);
        Due.is("23: all 0", x.walks(0, 3), 0);
        Due.is("23: missing, n does not matter", x.sheet(0, -1, MIN), 1);
        Due.is("23: is missing", x.walks(0, 0), -11);
        Due.is("23: missing, n does not matter", x.sheet(0, -1, MAX), 1);
        Due.is("23: others stay", x.cell(1, 39, 1), 1);
    }

    private static void sheetRefuses() {
        CountsIfCounted x = new CountsIfCounted();
        Due.row(x, 0, 0, 1, 1, 1);
        int[][] bad = {{-1, 0, 1}, {4, 0, 1}, {0, -2, 1}, {0, 3, 1}, {0, 0, 41}, {0, 2, MAX}, {MIN, 0, 1}, {MAX, 0, 1},
            {0, MIN, 1}, {0, MAX, 1}, {4, -1, 0}, {-1, 0, -1}, {0, 3, -1}};
        for (int[] one : bad) {
            Due.is("23: BAD", x.sheet(one[0], one[1], one[2]), -2);
        }
        Due.is("23: -14", x.sheet(0, 0, -1), -14);
        Due.is("23: -14", x.sheet(0, 2, MIN), -14);
        Due.is("23: refusals change nothing", x.walks(0, 3), 3);
    }

    private static void cells() {
        CountsIfCounted x = new CountsIfCounted();
        Due.is("24: -11", x.cell(0, 0, 0), -11);
        Due.is("24: BAD", x.cell(-1, 0, 0), -2);
        Due.is("24: BAD", x.cell(4, 0, 0), -2);
        Due.is("24: BAD", x.cell(MAX, -1, 0), -2);
        x.sheet(0, 2, 3);
        for (int i : new int[] {-1, 3, MIN, MAX}) {
            Due.is("24: -12", x.cell(0, i, 1), -12);
        }
        Due.is("24: -12 changes nothing", x.walks(0, 3), 0);
        Due.is("24: the last", x.cell(0, 2, -1), 1);
        Due.is("24: it is so", x.walks(0, 3), 7);
    }

    private static void cellBits() {
        CountsIfCounted x = Due.under("counts joy; joys 0; goes 0;");
        x.person(0, 0, 0, 0);
        int[][] steps = {{0, 257, 1}, {0, 255, -1}, {0, 256, 0}, {0, 128, 9}, {1, 65537, 1}, {1, 65535, -1}, {1, 255, 9},
            {1, 32768, 9}, {2, 65537, 9}, {2, -1, -1}, {2, MIN + 1, 9}, {1, MIN + 1, 1}, {0, MAX, -1}};
        for (int[] one : steps) {
            Due.row(x, 0, one[0], one[1]);
            int due = one[2] == 9 ? -2 : Math.floorMod(one[2], 8);
            Due.is("24: " + one[1] + " of sort " + one[0], x.walks(0, 3), due);
        }
        x.set(4, 0, 99);
        int[][] sums = {{0, 99, 1}, {0, 99 + 256, 1}, {1, 99 + 65536, 1}, {1, 99 + 256, 0}, {2, 99 + 65536, 0}, {2, 99, 1}};
        for (int[] one : sums) {
            Due.row(x, 0, one[0], one[1]);
            Due.is("24: " + one[1] + " of sort " + one[0], x.tells(0, 0, 0, 0), one[2] == 1 ? -1 : 0);
        }
    }

    private static void copies() {
        CountsIfCounted x = new CountsIfCounted();
        Due.row(x, 0, 0, 1, 1, -1, 0, 1);
        Due.row(x, 1, 0, 0, 0, 0, 0, 0, 0);
        Due.is("25: n", x.copy(0, 0, 1, 3, 2), 2);
        Due.is("25: they came", x.walks(1, 3), 2);
        Due.is("25: the source stays", x.walks(0, 3), 2);
        Due.is("25: at an end", x.copy(0, 4, 1, 5, 1), 1);
        Due.is("25: they came", x.walks(1, 3), 3);
        Due.is("25: none", x.copy(0, 5, 1, 6, 0), 0);
        Due.is("25: none", x.copy(0, 0, 0, 0, 0), 0);
        CountsIfCounted y = new CountsIfCounted();
        y.person(0, 0, 0, 1);
        Due.row(y, 0, 2, 1, 0, -1, 0, 0);
        Due.is("25: over itself, on", y.copy(0, 0, 0, 1, 4), 4);
        Due.row(y, 1, 2, 1, 1, 0, -1, 0);
        Due.is("25: as they were", y.walks(0, 3), y.walks(1, 3));
        Due.is("25: as they were", y.walks(0, 1), y.walks(1, 1));
        Due.row(y, 0, 2, 1, 0, -1, 0, 0);
        Due.is("25: over itself, back", y.copy(0, 1, 0, 0, 4), 4);
        Due.row(y, 1, 2, 0, -1, 0, 0, 0);
        Due.is("25: as they were", y.walks(0, 3), y.walks(1, 3));
        Due.is("25: all of 40", y.sheet(2, 1, 40) + y.sheet(3, 1, 40), 2);
        Due.is("25: all of 40", y.copy(2, 0, 3, 0, 40), 40);
    }

    private static void copyRefuses() {
        CountsIfCounted x = new CountsIfCounted();
        x.sheet(0, 0, 4);
        x.sheet(1, 1, 4);
        x.sheet(3, 0, 2);
        Due.is("25: BAD", x.copy(-1, 0, 0, 0, 0), -2);
        Due.is("25: BAD", x.copy(0, 0, 4, 0, 0), -2);
        Due.is("25: BAD is ahead of -11", x.copy(2, 0, 4, 0, 0), -2);
        Due.is("25: -11", x.copy(2, 0, 0, 0, 0), -11);
        Due.is("25: -11", x.copy(0, 0, 2, 0, 0), -11);
        Due.is("25: -11 is ahead of -12", x.copy(0, -1, 2, 0, -1), -11);
        Due.is("25: -13", x.copy(0, 0, 1, 0, 1), -13);
        Due.is("25: -13 is ahead of -12", x.copy(0, 9, 1, -1, -1), -13);
        int[][] outside = {{-1, 0, 1}, {0, -1, 1}, {0, 0, -1}, {4, 0, 1}, {0, 2, 1}, {0, 0, 3}, {3, 0, 2}, {0, 1, 2},
            {5, 0, 0}, {0, 3, 0}, {MIN, 0, 1}, {MAX, 0, 1}, {0, MAX, 1}, {1, 0, MAX}, {MAX, 0, MAX}, {0, 0, MIN}, {-1, 0, 0}};
        for (int[] one : outside) {
            Due.is("25: -12", x.copy(0, one[0], 3, one[1], one[2]), -12);
        }
    }

    private static void census() {
        CountsIfCounted x = new CountsIfCounted();
        Due.row(x, 0, 1, 7, 3, 9, 99, 7, 0, 0, 100, 0, 5, 0, 0, 0);
        Due.is("26: two come", x.census(0, 1, 1, 3), 2);
        Due.is("26: KIND", x.told(0, 7), 3);
        Due.is("26: NUMBER", x.told(0, 3), 9);
        Due.is("26: JOY", x.told(0, 4), 99);
        Due.is("26: AT", x.told(0, 5), 7);
        Due.is("26: the next is the third", x.told(1, 7), 5);
        Due.is("26: one more", x.census(0, 1, 9, 1), 1);
        Due.is("26: none asked", x.census(0, 1, 0, 0), 0);
        Due.is("26: none asked, no place either", x.census(0, 1, 99, 0), 0);
        Due.row(x, 1, 2, 0, 0, 0, 0, 1, 1, 1, 1, 2, 2, 2, 2, 3, 3, 3, 3);
        Due.is("26: as many as have room", x.census(1, 2, 0, 4), 2);
        Due.is("26: 5", x.count(0), 5);
        Due.is("26: the last that came", x.told(4, 7), 1);
        Due.is("26: none has room", x.census(1, 2, 0, 4), 0);
        CountsIfCounted y = new CountsIfCounted();
        Due.row(y, 0, 0, 0, 0, -1, 0, 0, 0, 99, 0);
        Due.is("26: bytes below 0 are left out", y.census(0, 0, 0, 2), 1);
        Due.is("26: JOY", y.told(0, 4), 99);
    }

    private static void censusRefuses() {
        CountsIfCounted x = new CountsIfCounted();
        x.sheet(0, 1, 20);
        int[][] bad = {{-1, 0, 0}, {4, 0, 0}, {0, -1, 0}, {0, 3, 0}, {0, 1, -1}, {0, 1, 6}, {0, MIN, 0}, {0, MAX, 0},
            {0, 1, MIN}, {0, 1, MAX}, {1, 3, 0}, {0, 0, 6}};
        for (int[] one : bad) {
            Due.is("26: BAD", x.census(one[0], one[1], 0, one[2]), -2);
        }
        Due.is("26: -13", x.census(0, 0, 0, 1), -13);
        Due.is("26: -13 of none", x.census(0, 2, 0, 0), -13);
        Due.is("26: -13 is ahead of -12", x.census(0, 2, 99, 5), -13);
        Due.is("26: -11", x.census(1, 0, 0, 1), -11);
        Due.is("26: -11 of none", x.census(1, 2, 0, 0), -11);
        Due.is("26: none came", x.count(0), 0);
    }

    private static void censusOutside() {
        CountsIfCounted x = new CountsIfCounted();
        x.sheet(0, 2, 11);
        Due.is("26: -12", x.census(0, 2, 0, 3), -12);
        Due.is("26: what stood ahead came", x.count(0), 2);
        Due.is("26: -12", x.census(0, 2, 8, 1), -12);
        Due.is("26: -12", x.census(0, 2, 11, 1), -12);
        Due.is("26: -12", x.census(0, 2, -1, 2), -12);
        Due.is("26: -12", x.census(0, 2, MAX, 1), -12);
        Due.is("26: -12", x.census(0, 2, MAX - 3, 5), -12);
        Due.is("26: -12", x.census(0, 2, MIN, 5), -12);
        Due.is("26: none of them came", x.count(0), 2);
        Due.is("26: to the end", x.census(0, 2, 7, 1), 1);
        Due.is("26: -12", x.census(0, 2, 3, 5), -12);
        Due.is("26: what stood ahead came", x.count(0), 5);
        Due.is("26: -12, too, when none has room", x.census(0, 2, 3, 3), -12);
        Due.is("26: none has room", x.census(0, 2, 3, 2), 0);
    }

    private static void taken() {
        boolean[][] under = {
            {true, false, false, false, false, false},
            {true, true, false, false, false, false},
            {true, false, true, false, false, false},
            {true, true, false, true, false, false},
            {true, false, true, false, true, false},
            {true, false, false, false, false, true}};
        for (int kind = 0; kind < 6; kind++) {
            CountsIfCounted x = new CountsIfCounted();
            x.person(kind, 7, 0, 0);
            for (int k = 0; k < 6; k++) {
                Due.is("27: " + kind + " for " + k, x.taken(0, k), under[kind][k] ? 7 : -13);
            }
        }
        CountsIfCounted x = new CountsIfCounted();
        Due.is("27: -11", x.taken(0, 0), -11);
        x.person(0, 7, 0, 0);
        for (int one : new int[] {-1, 1, MIN, MAX}) {
            Due.is("27: -11", x.taken(one, 5), -11);
        }
        for (int k : new int[] {-1, 6, MIN, MAX}) {
            Due.is("27: BAD", x.taken(0, k), -2);
            Due.is("27: BAD is ahead of -11", x.taken(1, k), -2);
        }
    }
}
