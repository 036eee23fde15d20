/** Part 3 and the host: a test for each sentence that names a bound, a wrap-around, or what is empty or full. */
final class SheetBoundTest {
    private static final int MIN = Integer.MIN_VALUE, MAX = Integer.MAX_VALUE;

    public static void main(String[] args) {
        missingAtFirst();
        sheetNumbers();
        sorts();
        sizes();
        becomesMissing();
        sizeBelowZero();
        allZero();
        items();
        bytes();
        shorts();
        ints();
        copyPlaces();
        copyOverItself();
        copyLeavesTheRest();
        copyOfNone();
        unlikeSorts();
        censusMany();
        censusPlaces();
        censusAhead();
        censusLeavesOut();
        censusBounds();
        takenFor();
        countNone();
        Due.end();
    }

    /** One who GOES nowhere and MAKES him 12, so that SUMS of rows can be told apart. */
    private static CountsIfCounted one() {
        CountsIfCounted x = new CountsIfCounted();
        x.person(0, 0, 0, 0);
        return x;
    }

    /** Whether item 0 of a SHEET of one number is v, by an int that SUM is: v is SUM behind a DAY then. */
    private static void holds(int sort, int laid, int v, boolean due) {
        CountsIfCounted x = Due.under("counts joy; joys 0; goes 0;");
        x.person(0, 0, v, 0);
        Due.row(x, 0, sort, laid);
        Due.is(laid + " of sort " + sort + " is " + v, x.tells(0, 0, 0, 0), due ? -1 : 0);
    }

    /** Whether it is a STEP, and which. */
    private static void isStep(int sort, int laid, int due) {
        CountsIfCounted x = new CountsIfCounted();
        Due.row(x, 0, sort, laid);
        Due.is(laid + " of sort " + sort + " as a STEP", x.walks(0, 3), due < -1 ? -2 : Math.floorMod(due, 8));
    }

    private static void missingAtFirst() {
        Due.sentence("SHEETS 0 .. 3 are rows of numbers, or missing (as all are at first)");
        CountsIfCounted x = one();
        for (int sheet = 0; sheet <= 3; sheet++) {
            Due.is("walks", x.walks(sheet, 0), -11);
            Due.is("tells", x.tells(sheet, 0, 0, 0), -11);
            Due.is("cell", x.cell(sheet, 0, 0), -11);
            Due.is("copy", x.copy(sheet, 0, sheet, 0, 0), -11);
            for (int sort = 0; sort <= 2; sort++) {
                Due.is("census", x.census(sheet, sort, 0, 0), -11);
            }
        }
        for (int sheet : new int[] {-1, 4}) {
            Due.is("no such SHEET", x.walks(sheet, 0), -2);
            Due.is("no such SHEET", x.tells(sheet, 0, 0, 0), -2);
            Due.is("no such SHEET", x.cell(sheet, 0, 0), -2);
            Due.is("no such SHEET", x.copy(sheet, 0, 0, 0, 0), -2);
            Due.is("no such SHEET", x.copy(0, 0, sheet, 0, 0), -2);
            Due.is("no such SHEET", x.census(sheet, 0, 0, 0), -2);
            Due.is("no such SHEET", x.film(sheet, 0, 0), -2);
            Due.is("no such SHEET", x.sheet(sheet, 0, 0), -2);
        }
    }

    private static void sheetNumbers() {
        Due.sentence("A SHEET becomes a row of n of a sort, all 0, or missing");
        for (int sheet = -1; sheet <= 4; sheet++) {
            CountsIfCounted x = new CountsIfCounted();
            boolean isSheet = sheet >= 0 && sheet <= 3;
            Due.is("SHEET " + sheet, x.sheet(sheet, 0, 2), isSheet ? 1 : -2);
            for (int other = 0; other <= 3; other++) {
                Due.is("SHEET " + other, x.cell(other, 1, 0), other == sheet ? 1 : -11);
            }
        }
    }

    private static void sorts() {
        Due.sentence("of sort 0 bytes, 1 shorts, 2 ints.");
        for (int sort = -2; sort <= 3; sort++) {
            CountsIfCounted x = new CountsIfCounted();
            boolean isSort = sort >= 0 && sort <= 2;
            Due.is("sort " + sort, x.sheet(0, sort, 1), isSort || sort == -1 ? 1 : -2);
            Due.is("a row of sort " + sort, x.cell(0, 0, 0), isSort ? 1 : -11);
            for (int other = 0; isSort && other <= 2; other++) {
                x.sheet(1, other, 1);
                Due.is("of sort " + sort + " and " + other, x.copy(0, 0, 1, 0, 1), sort == other ? 1 : -13);
                Due.is("of sort " + sort + " taken for " + other, x.census(0, other, 0, 0), sort == other ? 0 : -13);
            }
            Due.is("census by sort " + sort, x.census(0, sort, 0, 0), isSort ? 0 : -2);
        }
    }

    private static void sizes() {
        Due.sentence("BAD: no such SHEET, sort; n above 40; -14.");
        for (int sort = 0; sort <= 2; sort++) {
            for (int n : new int[] {0, 1, 2, 39, 40}) {
                CountsIfCounted x = new CountsIfCounted();
                Due.is("of " + n, x.sheet(3, sort, n), 1);
                Due.is("the first", x.cell(3, 0, 0), n > 0 ? 1 : -12);
                Due.is("the last", x.cell(3, n - 1, 0), n > 0 ? 1 : -12);
                Due.is("one more", x.cell(3, n, 0), -12);
                Due.is("one ahead", x.cell(3, -1, 0), -12);
                Due.is("as a ROW", x.walks(3, 3), n <= 20 ? 0 : -2);
            }
            CountsIfCounted x = new CountsIfCounted();
            Due.is("of 41", x.sheet(3, sort, 41), -2);
            Due.is("it stays missing", x.cell(3, 0, 0), -11);
        }
    }

    private static void becomesMissing() {
        Due.sentence("or missing (sort -1: n does not matter): 1.");
        for (int n : new int[] {MIN, -1, 0, 1, 40, 41, MAX}) {
            CountsIfCounted x = new CountsIfCounted();
            Due.is("missing already", x.sheet(0, -1, n), 1);
            x.sheet(0, 1, 3);
            Due.is("a row", x.walks(0, 0), 0);
            Due.is("missing, n " + n, x.sheet(0, -1, n), 1);
            Due.is("is missing", x.walks(0, 0), -11);
            Due.is("a row again", x.sheet(0, 2, 0), 1);
            Due.is("a row of none is none missing", x.walks(0, 0), 0);
        }
    }

    private static void sizeBelowZero() {
        Due.sentence("-14 a size below 0");
        CountsIfCounted x = new CountsIfCounted();
        Due.row(x, 0, 0, 1, 1, 1);
        for (int n : new int[] {-1, -2, MIN}) {
            for (int sort = 0; sort <= 2; sort++) {
                Due.is("of " + n, x.sheet(0, sort, n), -14);
                Due.is("it stays", x.walks(0, 3), 3);
            }
            Due.is("BAD is ahead: sort", x.sheet(0, 3, n), -2);
            Due.is("BAD is ahead: SHEET", x.sheet(4, 0, n), -2);
        }
    }

    private static void allZero() {
        Due.sentence("A SHEET becomes a row of n of a sort, all 0");
        for (int sort = 0; sort <= 2; sort++) {
            CountsIfCounted x = one();
            x.set(1, 0, 4);
            for (int size : new int[] {20, 7, 20}) {
                x.sheet(0, sort, size);
                Due.is("all 0", x.tells(0, 0, 0, 0), -1);
                Due.is("all 0", x.walks(0, 3), 4);
                for (int i = 0; i < size; i++) {
                    x.cell(0, i, 1);
                }
            }
            x.film(0, 1, 20);
            x.sheet(0, sort, 20);
            Due.is("all 0 where a film was", x.tells(0, 0, 0, 0), -1);
        }
    }

    private static void items() {
        Due.sentence("Item i of a SHEET becomes v");
        CountsIfCounted x = new CountsIfCounted();
        x.sheet(0, 1, 3);
        for (int i : new int[] {MIN, -1, 0, 1, 2, 3, 39, 40, MAX}) {
            Due.is("item " + i, x.cell(0, i, 1), i >= 0 && i <= 2 ? 1 : -12);
        }
        Due.is("1, 1, 1", x.walks(0, 3), 3);
        x.cell(0, 1, -1);
        Due.is("1, -1, 1", x.walks(0, 3), 1);
        x.cell(0, 1, 2);
        Due.is("2 is no STEP", x.walks(0, 3), -2);
    }

    private static void bytes() {
        Due.sentence("(of bytes, shorts its lowest 8, 16 bits)");
        int[][] steps = {{127, -9}, {128, -9}, {254, -9}, {255, -1}, {256, 0}, {257, 1}, {258, -9}, {-1, -1}, {-2, -9},
            {-128, -9}, {-255, 1}, {-256, 0}, {-257, -1}, {65535, -1}, {65537, 1}, {MAX, -1}, {MIN, 0}, {MIN + 1, 1}};
        for (int[] step : steps) {
            isStep(0, step[0], step[1]);
        }
        holds(0, 99, 99, true);
        holds(0, 99 + 256, 99, true);
        holds(0, 99 - 256, 99, true);
        holds(0, 99 + 128, 99, false);
        sumOf(0, 127, true);
        sumOf(0, 128, false);
        sumOf(0, 129, false);
        sumOf(0, 255, false);
        sumOf(0, 256, false);
    }

    private static void shorts() {
        Due.sentence("(of bytes, shorts its lowest 8, 16 bits)");
        int[][] steps = {{255, -9}, {256, -9}, {257, -9}, {32767, -9}, {32768, -9}, {65534, -9}, {65535, -1}, {65536, 0},
            {65537, 1}, {65538, -9}, {-1, -1}, {-32768, -9}, {-65535, 1}, {-65536, 0}, {-65537, -1}, {MAX, -1}, {MIN, 0}};
        for (int[] step : steps) {
            isStep(1, step[0], step[1]);
        }
        holds(1, 99 + 65536, 99, true);
        holds(1, 99 - 65536, 99, true);
        holds(1, 99 + 256, 99, false);
        holds(1, 99 + 32768, 99, false);
        sumOf(1, 128, true);
        sumOf(1, 256, true);
        sumOf(1, 32767, true);
        sumOf(1, 32768, false);
        sumOf(1, 32769, false);
        sumOf(1, 65536, false);
    }

    private static void ints() {
        Due.sentence("of sort 0 bytes, 1 shorts, 2 ints.");
        int[][] steps = {{MIN, -9}, {MAX, -9}, {65537, -9}, {257, -9}, {65535, -9}, {-1, -1}, {0, 0}, {1, 1}, {-2, -9}, {2, -9}};
        for (int[] step : steps) {
            isStep(2, step[0], step[1]);
        }
        holds(2, 99 + 65536, 99, false);
        holds(2, 99 + 256, 99, false);
        sumOf(2, 128, true);
        sumOf(2, 32768, true);
        sumOf(2, 65536, true);
        sumOf(2, 99999, true);
    }

    /** Whether a SHEET can tell a SUM of v: it is made of 495 a DAY, with the rest behind them. */
    private static void sumOf(int sort, int v, boolean due) {
        int days = Math.min(v / 495, 202);
        int rest = v - 495 * days;
        CountsIfCounted x = Due.under("counts 99 * (day < " + days + ") + joy * (" + (days - 1) + " < day); joys 0; goes 0;");
        for (int i = 0; i < 5; i++) {
            x.person(0, 0, Math.max(0, Math.min(99, rest - 99 * i)), 0);
        }
        for (int i = 0; i < days; i++) {
            x.day(0);
        }
        Due.is("SUM", x.run(1, 0, 1), v);
        Due.row(x, 0, sort, v);
        Due.is("a SUM of " + v + " by sort " + sort, x.tells(0, 0, 0, 0), due ? -1 : 0);
    }

    // ---- copies

    private static void copyPlaces() {
        Due.sentence("n numbers of a SHEET, from item i on, come to another one's item j on (as they were): n.");
        for (int i = -1; i <= 5; i++) {
            for (int j = -1; j <= 4; j++) {
                for (int n = -1; n <= 5; n++) {
                    CountsIfCounted x = new CountsIfCounted();
                    Due.row(x, 0, 0, 1, 1, 1, 1);
                    x.sheet(1, 0, 3);
                    boolean fits = i >= 0 && j >= 0 && n >= 0 && i + n <= 4 && j + n <= 3;
                    Due.is("from " + i + " to " + j + ", " + n, x.copy(0, i, 1, j, n), fits ? n : -12);
                    Due.is("so many came", x.walks(1, 3), fits ? n : 0);
                    Due.is("the first stays", x.walks(0, 3), 4);
                }
            }
        }
        CountsIfCounted x = new CountsIfCounted();
        x.sheet(0, 1, 40);
        x.sheet(1, 1, 40);
        Due.is("all 40", x.copy(0, 0, 1, 0, 40), 40);
        Due.is("the last", x.copy(0, 39, 1, 39, 1), 1);
        Due.is("41", x.copy(0, 0, 1, 0, 41), -12);
        Due.is("one behind the last", x.copy(0, 40, 1, 39, 1), -12);
        Due.is("to one behind the last", x.copy(0, 39, 1, 40, 1), -12);
    }

    private static void copyOverItself() {
        Due.sentence("(as they were)");
        for (int i = 0; i <= 3; i++) {
            for (int j = 0; j <= 3; j++) {
                CountsIfCounted x = one();
                int[] row = {1, 0, -1, 0, 1, -1};
                int[] due = row.clone();
                Due.row(x, 0, 2, row);
                Due.is("3 over itself", x.copy(0, i, 0, j, 3), 3);
                System.arraycopy(row, i, due, j, 3);
                Due.row(x, 1, 2, due);
                for (int n = 1; n <= 6; n++) {
                    Due.row(x, 2, 2, new int[n]);
                    Due.row(x, 3, 2, new int[n]);
                    x.copy(0, 0, 2, 0, n);
                    x.copy(1, 0, 3, 0, n);
                    Due.is("from " + i + " to " + j, x.walks(2, 3), x.walks(3, 3));
                }
            }
        }
    }

    private static void copyLeavesTheRest() {
        Due.sentence("come to another one's item j on");
        CountsIfCounted x = one();
        Due.row(x, 0, 2, 1, 2, 3, 4, 5);
        Due.row(x, 1, 2, 12, 24, 36, 48, 60);
        Due.row(x, 2, 2, 12, 24, 0, 0, 60);
        Due.is("2 of them", x.copy(2, 2, 1, 2, 2), 2);
        Due.is("the third is another", x.tells(1, 0, 0, 0), 2);
        x.cell(1, 2, 36);
        Due.is("the fourth, too", x.tells(1, 0, 0, 0), 3);
        x.cell(1, 3, 48);
        Due.is("the fifth not", x.tells(1, 0, 0, 0), -1);
    }

    private static void copyOfNone() {
        Due.sentence("-12 (also with n below 0).");
        CountsIfCounted x = new CountsIfCounted();
        x.sheet(0, 0, 4);
        x.sheet(1, 0, 0);
        Due.is("none of 4", x.copy(0, 4, 0, 0, 0), 0);
        Due.is("none of none", x.copy(1, 0, 1, 0, 0), 0);
        Due.is("none to none", x.copy(0, 0, 1, 0, 0), 0);
        Due.is("none from beyond", x.copy(0, 5, 0, 0, 0), -12);
        Due.is("none to beyond", x.copy(0, 0, 1, 1, 0), -12);
        Due.is("one of none", x.copy(1, 0, 0, 0, 1), -12);
        Due.is("one to none", x.copy(0, 0, 1, 0, 1), -12);
        Due.is("n -1", x.copy(0, 1, 0, 1, -1), -12);
        Due.is("n MIN", x.copy(0, 4, 0, 4, MIN), -12);
        Due.is("n MAX", x.copy(0, 1, 0, 1, MAX), -12);
    }

    private static void unlikeSorts() {
        Due.sentence("-13: they are of unlike sorts");
        for (int sort = 0; sort <= 2; sort++) {
            for (int other = 0; other <= 2; other++) {
                CountsIfCounted x = new CountsIfCounted();
                x.sheet(0, sort, 4);
                x.sheet(1, other, 4);
                boolean alike = sort == other;
                Due.is(sort + " to " + other, x.copy(0, 0, 1, 0, 4), alike ? 4 : -13);
                Due.is(sort + " to " + other + ", none", x.copy(0, 0, 1, 0, 0), alike ? 0 : -13);
                Due.is(sort + " to " + other + ", outside", x.copy(0, 0, 1, 0, 5), alike ? -12 : -13);
                Due.is(sort + " to " + other + ", n below 0", x.copy(0, 0, 1, 0, -1), alike ? -12 : -13);
            }
        }
    }

    // ---- census, taken

    private static void censusMany() {
        Due.sentence("from one on, four by four (as of person()), n of them (0 .. 5): how many came (others are left out).");
        for (int n = -1; n <= 6; n++) {
            CountsIfCounted x = new CountsIfCounted();
            x.sheet(0, 2, 40);
            boolean fits = n >= 0 && n <= 5;
            Due.is("n " + n, x.census(0, 2, 0, n), fits ? n : -2);
            Due.is("so many came", x.count(0), fits ? n : 0);
        }
        for (int people = 0; people <= 5; people++) {
            CountsIfCounted x = new CountsIfCounted();
            for (int i = 0; i < people; i++) {
                x.person(0, 0, 0, 0);
            }
            x.sheet(0, 0, 20);
            Due.is("5 where " + people + " are", x.census(0, 0, 0, 5), 5 - people);
            Due.is("5", x.count(0), 5);
        }
    }

    private static void censusPlaces() {
        Due.sentence("-11; -12: what stood ahead came.");
        for (int size = 0; size <= 9; size++) {
            for (int from = -2; from <= 9; from++) {
                for (int n = 0; n <= 3; n++) {
                    CountsIfCounted x = new CountsIfCounted();
                    x.sheet(0, 1, size);
                    int room = from < 0 || from > size ? 0 : (size - from) / 4;
                    Due.is("n " + n + " from " + from + " of " + size, x.census(0, 1, from, n), room >= n ? n : -12);
                    Due.is("so many came", x.count(0), Math.min(n, room));
                }
            }
        }
        CountsIfCounted x = new CountsIfCounted();
        x.sheet(0, 0, 40);
        Due.is("the last of 40", x.census(0, 0, 36, 1), 1);
        Due.is("one behind", x.census(0, 0, 37, 1), -12);
        for (int from : new int[] {MIN, MIN + 3, MAX - 4, MAX - 3, MAX}) {
            Due.is("from " + from, x.census(0, 0, from, 5), -12);
        }
        Due.is("one came", x.count(0), 1);
    }

    private static void censusAhead() {
        Due.sentence("-12: what stood ahead came.");
        CountsIfCounted x = new CountsIfCounted();
        Due.row(x, 0, 0, 1, 2, 3, 4, 6, 0, 0, 0, 5, 6, 7, 0, 0, 0, 0);
        Due.is("the fourth is outside in part", x.census(0, 0, 0, 4), -12);
        Due.is("two came, one was left out", x.count(0), 2);
        int[][] due = {{2, 3, 4, 0, 1}, {6, 7, 0, 0, 5}};
        for (int one = 0; one < 2; one++) {
            for (int what = 3; what <= 7; what++) {
                Due.is("told " + what, x.told(one, what), due[one][what - 3]);
            }
        }
        Due.is("again, till it is FULL", x.census(0, 0, 0, 5), -12);
        Due.is("four", x.count(0), 4);
        Due.is("again", x.census(0, 0, 0, 5), -12);
        Due.is("five", x.count(0), 5);
        Due.is("the fifth", x.told(4, 7), 1);
        Due.is("none has room, and a place is outside", x.census(0, 0, 0, 5), -12);
        Due.is("none has room", x.census(0, 0, 0, 3), 0);
    }

    private static void censusLeavesOut() {
        Due.sentence("how many came (others are left out)");
        int[][] people = {{-1, 0, 0, 0}, {0, 0, 0, 0}, {5, 0, 0, 0}, {6, 0, 0, 0}, {0, -1, 0, 0}, {0, 9, 0, 0}, {0, 10, 0, 0},
            {0, 0, -1, 0}, {0, 0, 99, 0}, {0, 0, 100, 0}, {0, 0, 0, -1}, {0, 0, 0, 7}, {0, 0, 0, 8}};
        boolean[] comes = {false, true, true, false, false, true, false, false, true, false, false, true, false};
        for (int sort = 0; sort <= 2; sort++) {
            for (int i = 0; i < people.length; i++) {
                CountsIfCounted x = new CountsIfCounted();
                Due.row(x, 0, sort, people[i]);
                Due.is("the " + i + "th by sort " + sort, x.census(0, sort, 0, 1), comes[i] ? 1 : 0);
                Due.is("PEOPLE", x.count(0), comes[i] ? 1 : 0);
            }
        }
    }

    private static void censusBounds() {
        Due.sentence("PEOPLE by a SHEET that is taken for one of a sort");
        CountsIfCounted x = new CountsIfCounted();
        Due.row(x, 0, 0, 256, 257, 355, 263);
        Due.row(x, 1, 1, 65536, 65537, 65635, 65543);
        Due.row(x, 2, 2, 256, 257, 355, 263);
        Due.is("bytes by their lowest 8 bits", x.census(0, 0, 0, 1), 1);
        Due.is("shorts by their lowest 16", x.census(1, 1, 0, 1), 1);
        Due.is("ints as they are", x.census(2, 2, 0, 1), 0);
        for (int one = 0; one < 2; one++) {
            int[] due = {1, 99, 7, 0, 0};
            for (int what = 3; what <= 7; what++) {
                Due.is("told " + what, x.told(one, what), due[what - 3]);
            }
        }
        Due.is("sort -1", x.census(0, -1, 0, 1), -2);
        Due.is("sort 3", x.census(0, 3, 0, 1), -2);
    }

    private static void takenFor() {
        Due.sentence("One of PEOPLE taken for one of KIND k (0 .. 5), or one under that one (also by others between): the NUMBER.");
        CountsIfCounted x = new CountsIfCounted();
        for (int k = -1; k <= 6; k++) {
            Due.is("nobody for " + k, x.taken(0, k), k < 0 || k > 5 ? -2 : -11);
        }
        x.person(3, 0, 0, 0);
        x.person(4, 9, 0, 0);
        int[] child = {0, 0, -13, 0, -13, -13};
        int[] widow = {9, -13, 9, -13, 9, -13};
        for (int k = 0; k <= 5; k++) {
            Due.is("a CHILD for " + k, x.taken(0, k), child[k]);
            Due.is("a WIDOW for " + k, x.taken(1, k), widow[k]);
            Due.is("one below for " + k, x.taken(-1, k), -11);
            Due.is("one above for " + k, x.taken(2, k), -11);
        }
        Due.is("k -1", x.taken(0, -1), -2);
        Due.is("k 6", x.taken(0, 6), -2);
        Due.is("k 6 of none such", x.taken(2, 6), -2);
    }

    private static void countNone() {
        Due.sentence("How many: 0 PEOPLE, 1 HOUSES that are GOOD, 2 DAY, 3 TEXTS, 4 bytes of THE TAPE, 5 THE RULE. BAD.");
        CountsIfCounted x = new CountsIfCounted();
        int[] least = {0, 0, 0, 1, 0, 0};
        int[] highest = {5, 8, 999, 6, 160, 5};
        for (int what = -1; what <= 6; what++) {
            Due.is("least of " + what, x.count(what), what < 0 || what > 5 ? -2 : least[what]);
        }
        for (int i = 1; i <= 5; i++) {
            x.person(0, 0, 0, 0);
            Due.textOf(x, "counts1;joys1;goes1;");
        }
        x.set(2, 0, 255);
        x.set(0, 0, 999);
        x.force(5);
        for (int i = 0; i < 160; i++) {
            x.feed(0);
        }
        for (int what = -1; what <= 6; what++) {
            Due.is("highest of " + what, x.count(what), what < 0 || what > 5 ? -2 : highest[what]);
        }
    }
}
