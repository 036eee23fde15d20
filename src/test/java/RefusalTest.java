import java.util.function.ToLongFunction;

/** Every refused call, in the order of its refusals, in several countries; and that it changes nothing. */
final class RefusalTest {
    private static final int MIN = Integer.MIN_VALUE, MAX = Integer.MAX_VALUE;
    private static final int BAD = -2, STATE = -3, FULL = -4, NOTHING = -11, OUTSIDE = -12, OTHER = -13, BELOW = -14;
    private static final long NO = -4611686018427387904L;
    private static final int[] HIGHEST = {999, 7, 255, 9, 99, 7, 99};

    /** The countries in which calls are refused. */
    private enum At {
        EMPTY(0, 1), BUSY(4, 3), FILLED(5, 6);

        final int people;
        final int texts;
        final String untouched;

        At(int people, int texts) {
            this.people = people;
            this.texts = texts;
            untouched = Everything.of(made());
        }

        final CountsIfCounted made() {
            return people == 4 ? Countries.busy() : people == 5 ? Countries.filled() : new CountsIfCounted();
        }

        void refuses(String call, long due, ToLongFunction<CountsIfCounted> asked) {
            CountsIfCounted x = made();
            Due.is(this + ": " + call, asked.applyAsLong(x), due);
            Due.that(this + ": " + call + " changes nothing", Everything.of(x).equals(untouched));
        }
    }

    public static void main(String[] args) {
        seesChanges();
        set();
        person();
        told();
        feed();
        text();
        force();
        day();
        walks();
        run();
        when();
        row();
        begin();
        holds();
        self();
        tells();
        film();
        drawn();
        chance();
        back();
        count();
        sheet();
        cell();
        copy();
        copyOutside();
        census();
        censusOutside();
        taken();
        Due.end();
    }

    /** One below and one above the bounds, and as far as can be. */
    private static int[] outside(int least, int highest) {
        return new int[] {least - 1, highest + 1, MIN, MAX};
    }

    /** So that "changes nothing" is worth something: what isn't refused is seen. */
    private static void seesChanges() {
        see("set", x -> x.set(6, 1, 50));
        see("person", x -> x.person(0, 0, 0, 0));
        see("feed", x -> x.feed(' '));
        see("text", x -> x.text());
        see("force", x -> x.force(1));
        see("day", x -> x.day(-1));
        see("film", x -> x.film(3, 0, 0));
        see("film shorter", x -> x.film(2, 1, 19));
        see("image", x -> x.image());
        see("back", x -> x.back());
        see("sheet", x -> x.sheet(0, -1, 0));
        see("sheet of another sort", x -> x.sheet(3, 1, 5));
        for (int sheet = 0; sheet < 3; sheet++) {
            for (int i = 0; i < (sheet == 0 ? 5 : 20); i++) {
                int its = sheet;
                int at = i;
                see("cell " + sheet + " " + i, x -> x.cell(its, at, 77));
            }
        }
        see("copy", x -> x.copy(0, 0, 0, 1, 1));
        see("census", x -> x.sheet(3, 2, 4) + x.census(3, 2, 0, 1));
    }

    private static void see(String call, ToLongFunction<CountsIfCounted> asked) {
        CountsIfCounted x = At.BUSY.made();
        Due.that(call + " is not refused", asked.applyAsLong(x) >= 0);
        Due.that(call + " is seen", !Everything.of(x).equals(At.BUSY.untouched));
    }

    private static void set() {
        Due.sentence("of one of PEOPLE becomes v: what it was. BAD.");
        for (At at : At.values()) {
            for (int what : outside(0, 6)) {
                at.refuses("set(" + what + ", 0, 0)", BAD, x -> x.set(what, 0, 0));
            }
            for (int what = 0; what <= 6; what++) {
                int its = what;
                for (int v : outside(0, HIGHEST[what])) {
                    at.refuses("set(" + what + ", 0, " + v + ")", BAD, x -> x.set(its, 0, v));
                }
                for (int of : what < 3 ? new int[0] : outside(0, at.people - 1)) {
                    at.refuses("set(" + what + ", " + of + ", 0)", BAD, x -> x.set(its, of, 0));
                }
            }
        }
    }

    private static void person() {
        Due.sentence("One of PEOPLE: the number. BAD; FULL.");
        for (At at : At.values()) {
            for (int kind : outside(0, 5)) {
                at.refuses("person: KIND " + kind, BAD, x -> x.person(kind, 0, 0, 0));
            }
            for (int number : outside(0, 9)) {
                at.refuses("person: NUMBER " + number, BAD, x -> x.person(0, number, 0, 0));
            }
            for (int joy : outside(0, 99)) {
                at.refuses("person: JOY " + joy, BAD, x -> x.person(0, 0, joy, 0));
            }
            for (int house : outside(0, 7)) {
                at.refuses("person: HOUSE " + house, BAD, x -> x.person(0, 0, 0, house));
            }
        }
        for (int kind = 0; kind <= 5; kind++) {
            int its = kind;
            At.FILLED.refuses("person: a sixth", FULL, x -> x.person(its, 9, 99, 7));
        }
    }

    private static void told() {
        Due.sentence("12 TIMES (nor). -1000: none such.");
        for (At at : At.values()) {
            for (int what : outside(0, 12)) {
                at.refuses("told(0, " + what + ")", -1000, x -> x.told(0, what));
            }
            for (int of : outside(0, at.people - 1)) {
                for (int what = 3; what <= 9; what++) {
                    int its = what;
                    at.refuses("told(" + of + ", " + what + ")", -1000, x -> x.told(of, its));
                }
            }
            for (int house : outside(0, 7)) {
                at.refuses("told(" + house + ", 10)", -1000, x -> x.told(house, 10));
            }
        }
    }

    private static void feed() {
        Due.sentence("A byte (0 .. 255) comes behind THE TAPE: how many it has. BAD; FULL.");
        for (At at : At.values()) {
            for (int letter : outside(0, 255)) {
                at.refuses("feed(" + letter + ")", BAD, x -> x.feed(letter));
            }
        }
        for (int letter : new int[] {0, 32, 255}) {
            At.FILLED.refuses("feed(" + letter + "): a byte more", FULL, x -> x.feed(letter));
        }
    }

    private static void text() {
        Due.sentence("FULL (ahead of all): no TEXT more has room (THE TAPE stays).");
        At.FILLED.refuses("text()", FULL, x -> x.text());
    }

    private static void force() {
        Due.sentence("A TEXT is THE RULE: which was. BAD.");
        for (At at : At.values()) {
            for (int text : outside(0, at.texts - 1)) {
                at.refuses("force(" + text + ")", BAD, x -> x.force(text));
            }
        }
    }

    private static void day() {
        Due.sentence("A DAY by a STEP, truly: GOOD then (bits). BAD; STATE: DAY is 999.");
        for (At at : At.values()) {
            for (int step : outside(-1, 1)) {
                at.refuses("day(" + step + ")", BAD, x -> x.day(step));
            }
        }
        for (int step = -1; step <= 1; step++) {
            int its = step;
            At.FILLED.refuses("day(" + step + ") on DAY 999", STATE, x -> x.day(its));
        }
    }

    private static void walks() {
        Due.sentence("BAD: SHEET, what; -11; BAD: it tells more than 20, what is no STEP.");
        for (At at : At.values()) {
            for (int sheet : outside(0, 3)) {
                at.refuses("walks(" + sheet + ", 0)", BAD, x -> x.walks(sheet, 0));
            }
            for (int sheet = 0; sheet < 4; sheet++) {
                int its = sheet;
                for (int what : outside(0, 3)) {
                    at.refuses("walks(" + sheet + ", " + what + ")", BAD, x -> x.walks(its, what));
                }
            }
        }
        for (int what = 0; what <= 3; what++) {
            int its = what;
            At.EMPTY.refuses("walks(0, " + what + "): missing", NOTHING, x -> x.walks(0, its));
            At.BUSY.refuses("walks(3, " + what + "): missing", NOTHING, x -> x.walks(3, its));
            At.BUSY.refuses("walks(2, " + what + "): no STEPS", BAD, x -> x.walks(2, its));
            At.FILLED.refuses("walks(0, " + what + "): 40", BAD, x -> x.walks(0, its));
            At.FILLED.refuses("walks(3, " + what + "): 21", BAD, x -> x.walks(3, its));
        }
    }

    private static void run() {
        Due.sentence("its JOY (what less 20; 20 ..). BAD.");
        for (At at : At.values()) {
            for (int n : outside(0, 40)) {
                at.refuses("run(" + n + ", 0, 0)", BAD, x -> x.run(n, 0, 0));
            }
            for (int step : outside(-1, 1)) {
                at.refuses("run(1, " + step + ", 0)", BAD, x -> x.run(1, step, 0));
            }
            int[] wrong = {-1, MIN, MAX, 2, 9, 10 + at.people, 19, 20 + at.people, 29, 30};
            for (int what : wrong) {
                at.refuses("run(1, 0, " + what + ")", BAD, x -> x.run(1, 0, what));
            }
        }
    }

    private static void when() {
        Due.sentence("WHEN. BAD: no such HOUSE, STEP; NONE.");
        for (At at : At.values()) {
            for (int house : outside(0, 7)) {
                at.refuses("when(" + house + ", 0)", BAD, x -> x.when(house, 0));
            }
            for (int step : outside(-1, 1)) {
                at.refuses("when(0, " + step + ")", BAD, x -> x.when(0, step));
                at.refuses("when(4, " + step + ")", BAD, x -> x.when(4, step));
            }
        }
    }

    private static void row() {
        Due.sentence("BEST ROW (what 0; digits), how many are GOOD (1). BAD.");
        for (At at : At.values()) {
            for (int n : outside(0, 6)) {
                at.refuses("row(" + n + ", 0)", BAD, x -> x.row(n, 0));
                at.refuses("row(" + n + ", 1)", BAD, x -> x.row(n, 1));
            }
            for (int what : outside(0, 1)) {
                at.refuses("row(1, " + what + ")", BAD, x -> x.row(1, what));
            }
        }
    }

    private static void begin() {
        Due.sentence("BEGIN (what 0), how many are GOOD (1). BAD.");
        for (At at : At.values()) {
            for (int n : outside(0, 20)) {
                at.refuses("begin(" + n + ", 0, 1)", BAD, x -> x.begin(n, 0, 1));
            }
            for (int step : outside(-1, 1)) {
                at.refuses("begin(0, " + step + ", 0)", BAD, x -> x.begin(0, step, 0));
            }
            for (int what : outside(0, 1)) {
                at.refuses("begin(0, 0, " + what + ")", BAD, x -> x.begin(0, 0, what));
            }
        }
    }

    private static void holds() {
        Due.sentence("OUT (what 0; bits), BRING (1; NONE). BAD.");
        for (At at : At.values()) {
            for (int what : outside(0, 1)) {
                at.refuses("holds(" + what + ")", BAD, x -> x.holds(what));
            }
        }
    }

    private static void self() {
        Due.sentence("in lowest terms. NO: part, TIMES is 0.");
        for (At at : At.values()) {
            for (int part : outside(0, 1)) {
                at.refuses("self(" + part + ")", NO, x -> x.self(part));
            }
        }
        At.EMPTY.refuses("self(0): TIMES is 0", NO, x -> x.self(0));
        At.EMPTY.refuses("self(1): TIMES is 0", NO, x -> x.self(1));
    }

    private static void tells() {
        Due.sentence("BAD: SHEET, none such, STEP, what; -11; BAD: it tells more than 20.");
        for (At at : At.values()) {
            for (int sheet : outside(0, 3)) {
                at.refuses("tells(" + sheet + ", 0, 0, 0)", BAD, x -> x.tells(sheet, 0, 0, 0));
            }
            for (int sheet = 2; sheet < 4; sheet++) {
                int its = sheet;
                for (int one : outside(0, at.people - 1)) {
                    at.refuses("tells(" + sheet + ", " + one + ", 0, 0)", BAD, x -> x.tells(its, one, 0, 0));
                }
                for (int step : outside(-1, 1)) {
                    at.refuses("tells(" + sheet + ", 0, " + step + ", 0)", BAD, x -> x.tells(its, 0, step, 0));
                }
                for (int what : outside(0, 7)) {
                    at.refuses("tells(" + sheet + ", 0, 0, " + what + ")", BAD, x -> x.tells(its, 0, 0, what));
                }
            }
        }
        for (int what = 0; what <= 7; what++) {
            int its = what;
            At.BUSY.refuses("tells(3, 0, 0, " + what + "): missing", NOTHING, x -> x.tells(3, 0, 0, its));
            At.FILLED.refuses("tells(2, 0, 0, " + what + "): 40", BAD, x -> x.tells(2, 0, 0, its));
            At.FILLED.refuses("tells(3, 0, 0, " + what + "): 21", BAD, x -> x.tells(3, 0, 0, its));
        }
    }

    private static void film() {
        Due.sentence("DAYS by a STEP (n 0 .. 20; ints): n. BAD.");
        for (At at : At.values()) {
            for (int sheet : outside(0, 3)) {
                at.refuses("film(" + sheet + ", 0, 1)", BAD, x -> x.film(sheet, 0, 1));
            }
            for (int step : outside(-1, 1)) {
                at.refuses("film(1, " + step + ", 1)", BAD, x -> x.film(1, step, 1));
            }
            for (int n : outside(0, 20)) {
                at.refuses("film(1, 0, " + n + ")", BAD, x -> x.film(1, 0, n));
            }
        }
    }

    private static void drawn() {
        Due.sentence("DRAWN. BAD: n.");
        for (At at : At.values()) {
            for (int n : outside(0, 40)) {
                at.refuses("drawn(0, " + n + ")", BAD, x -> x.drawn(0, n));
            }
        }
    }

    private static void chance() {
        Due.sentence("in lowest terms. NO: m, k, part.");
        for (At at : At.values()) {
            for (int m : outside(1, 20)) {
                at.refuses("chance(0, " + m + ", 0, 0)", NO, x -> x.chance(0, m, 0, 0));
            }
            for (int k : outside(0, 8)) {
                at.refuses("chance(0, 1, " + k + ", 0)", NO, x -> x.chance(0, 1, k, 0));
            }
            for (int part : outside(0, 1)) {
                at.refuses("chance(0, 1, 0, " + part + ")", NO, x -> x.chance(0, 1, 0, part));
            }
        }
    }

    private static void back() {
        Due.sentence("All that it keeps is as in THE IMAGE: how many PEOPLE. STATE: there is none.");
        At.EMPTY.refuses("back()", STATE, x -> x.back());
    }

    private static void count() {
        Due.sentence("4 bytes of THE TAPE, 5 THE RULE. BAD.");
        for (At at : At.values()) {
            for (int what : outside(0, 5)) {
                at.refuses("count(" + what + ")", BAD, x -> x.count(what));
            }
        }
    }

    private static void sheet() {
        Due.sentence("BAD: no such SHEET, sort; n above 40; -14.");
        for (At at : At.values()) {
            for (int sheet : outside(0, 3)) {
                at.refuses("sheet(" + sheet + ", 0, 1)", BAD, x -> x.sheet(sheet, 0, 1));
                at.refuses("sheet(" + sheet + ", -1, 1)", BAD, x -> x.sheet(sheet, -1, 1));
                at.refuses("sheet(" + sheet + ", 0, -1)", BAD, x -> x.sheet(sheet, 0, -1));
            }
            for (int sort : outside(-1, 2)) {
                at.refuses("sheet(0, " + sort + ", 1)", BAD, x -> x.sheet(0, sort, 1));
                at.refuses("sheet(0, " + sort + ", -1)", BAD, x -> x.sheet(0, sort, -1));
            }
            for (int sort = 0; sort <= 2; sort++) {
                int its = sort;
                at.refuses("sheet(1, " + sort + ", 41)", BAD, x -> x.sheet(1, its, 41));
                at.refuses("sheet(1, " + sort + ", MAX)", BAD, x -> x.sheet(1, its, MAX));
                at.refuses("sheet(1, " + sort + ", -1)", BELOW, x -> x.sheet(1, its, -1));
                at.refuses("sheet(1, " + sort + ", MIN)", BELOW, x -> x.sheet(1, its, MIN));
            }
        }
    }

    private static void cell() {
        Due.sentence("1. BAD: no such SHEET; -11; -12.");
        for (At at : At.values()) {
            for (int sheet : outside(0, 3)) {
                at.refuses("cell(" + sheet + ", 0, 1)", BAD, x -> x.cell(sheet, 0, 1));
                at.refuses("cell(" + sheet + ", -1, 1)", BAD, x -> x.cell(sheet, -1, 1));
            }
        }
        for (int i : new int[] {0, -1, 40, MIN, MAX}) {
            At.EMPTY.refuses("cell(0, " + i + ", 1): missing", NOTHING, x -> x.cell(0, i, 1));
            At.BUSY.refuses("cell(3, " + i + ", 1): missing", NOTHING, x -> x.cell(3, i, 1));
        }
        for (int i : outside(0, 4)) {
            At.BUSY.refuses("cell(0, " + i + ", 1)", OUTSIDE, x -> x.cell(0, i, 1));
        }
        for (int i : outside(0, 19)) {
            At.BUSY.refuses("cell(1, " + i + ", 1)", OUTSIDE, x -> x.cell(1, i, 1));
            At.BUSY.refuses("cell(2, " + i + ", 1)", OUTSIDE, x -> x.cell(2, i, 1));
        }
        for (int i : outside(0, 39)) {
            At.FILLED.refuses("cell(0, " + i + ", 1)", OUTSIDE, x -> x.cell(0, i, 1));
        }
    }

    private static void copy() {
        Due.sentence("n. BAD: no such SHEET; -11; -13: they are of unlike sorts; -12 (also with n below 0).");
        for (At at : At.values()) {
            for (int sheet : outside(0, 3)) {
                at.refuses("copy(" + sheet + ", 0, 0, 0, 0)", BAD, x -> x.copy(sheet, 0, 0, 0, 0));
                at.refuses("copy(0, 0, " + sheet + ", 0, 0)", BAD, x -> x.copy(0, 0, sheet, 0, 0));
                at.refuses("copy(3, -1, " + sheet + ", 0, -1)", BAD, x -> x.copy(3, -1, sheet, 0, -1));
                at.refuses("copy(" + sheet + ", 0, 3, -1, -1)", BAD, x -> x.copy(sheet, 0, 3, -1, -1));
            }
        }
        for (int n : new int[] {0, 1, -1, 41, MIN, MAX}) {
            At.EMPTY.refuses("copy(0, 0, 1, 0, " + n + "): missing", NOTHING, x -> x.copy(0, 0, 1, 0, n));
            At.BUSY.refuses("copy(3, 0, 0, 0, " + n + "): missing", NOTHING, x -> x.copy(3, 0, 0, 0, n));
            At.BUSY.refuses("copy(0, 0, 3, 0, " + n + "): missing", NOTHING, x -> x.copy(0, 0, 3, 0, n));
            At.BUSY.refuses("copy(3, -1, 3, -1, " + n + "): missing", NOTHING, x -> x.copy(3, -1, 3, -1, n));
            At.BUSY.refuses("copy(0, 0, 1, 0, " + n + "): bytes, shorts", OTHER, x -> x.copy(0, 0, 1, 0, n));
            At.BUSY.refuses("copy(1, 0, 2, 0, " + n + "): shorts, ints", OTHER, x -> x.copy(1, 0, 2, 0, n));
            At.BUSY.refuses("copy(2, -1, 0, 9, " + n + "): ints, bytes", OTHER, x -> x.copy(2, -1, 0, 9, n));
        }
    }

    private static void copyOutside() {
        Due.sentence("-12 (also with n below 0).");
        int[][] outside = {{-1, 0, 1}, {0, -1, 1}, {0, 0, -1}, {0, 0, 6}, {5, 0, 1}, {0, 5, 1}, {4, 0, 2}, {0, 4, 2},
            {6, 0, 0}, {0, 6, 0}, {-1, 0, 0}, {0, -1, 0}, {0, 0, MIN}, {0, 0, MAX}, {MIN, 0, 1}, {MAX, 0, 1},
            {0, MIN, 1}, {0, MAX, 1}, {MAX, MAX, MAX}, {MIN, MIN, MIN}, {1, 0, MAX}, {0, 1, MAX}, {MAX, 0, 2}};
        for (int[] a : outside) {
            String call = "copy(0, " + a[0] + ", 0, " + a[1] + ", " + a[2] + ")";
            At.BUSY.refuses(call, OUTSIDE, x -> x.copy(0, a[0], 0, a[1], a[2]));
        }
        At.FILLED.refuses("copy: 22 of 21", OUTSIDE, x -> x.copy(2, 0, 3, 0, 22));
        At.FILLED.refuses("copy: 22 out of 21", OUTSIDE, x -> x.copy(3, 0, 2, 0, 22));
        At.FILLED.refuses("copy: 41 of 40", OUTSIDE, x -> x.copy(0, 0, 0, 0, 41));
    }

    private static void census() {
        Due.sentence("BAD: no such SHEET, sort, n; -13; -11; -12: what stood ahead came.");
        for (At at : At.values()) {
            for (int sheet : outside(0, 3)) {
                at.refuses("census(" + sheet + ", 0, 0, 0)", BAD, x -> x.census(sheet, 0, 0, 0));
                at.refuses("census(" + sheet + ", 0, -1, 1)", BAD, x -> x.census(sheet, 0, -1, 1));
            }
            for (int sort : outside(0, 2)) {
                at.refuses("census(0, " + sort + ", 0, 0)", BAD, x -> x.census(0, sort, 0, 0));
                at.refuses("census(3, " + sort + ", -1, 1)", BAD, x -> x.census(3, sort, -1, 1));
            }
            for (int n : outside(0, 5)) {
                at.refuses("census(0, 0, 0, " + n + ")", BAD, x -> x.census(0, 0, 0, n));
                at.refuses("census(1, 0, -1, " + n + ")", BAD, x -> x.census(1, 0, -1, n));
                at.refuses("census(3, 2, -1, " + n + ")", BAD, x -> x.census(3, 2, -1, n));
            }
        }
        for (int n = 0; n <= 5; n++) {
            int many = n;
            for (int from : new int[] {0, -1, 99}) {
                At.BUSY.refuses("census(0, 1, ..): bytes, shorts", OTHER, x -> x.census(0, 1, from, many));
                At.BUSY.refuses("census(1, 2, ..): shorts, ints", OTHER, x -> x.census(1, 2, from, many));
                At.BUSY.refuses("census(2, 0, ..): ints, bytes", OTHER, x -> x.census(2, 0, from, many));
                At.BUSY.refuses("census(3, 0, ..): missing", NOTHING, x -> x.census(3, 0, from, many));
                At.EMPTY.refuses("census(1, 2, ..): missing", NOTHING, x -> x.census(1, 2, from, many));
            }
        }
    }

    /** Where none stands ahead of the place outside, none comes. */
    private static void censusOutside() {
        Due.sentence("-12: what stood ahead came.");
        for (int from : new int[] {-1, 2, 3, 4, 5, MIN, MAX, MAX - 2, MAX - 3}) {
            At.BUSY.refuses("census(0, 0, " + from + ", 1)", OUTSIDE, x -> x.census(0, 0, from, 1));
            At.BUSY.refuses("census(0, 0, " + from + ", 5)", OUTSIDE, x -> x.census(0, 0, from, 5));
        }
        At.FILLED.refuses("census(0, 0, 37, 1)", OUTSIDE, x -> x.census(0, 0, 37, 1));
        At.FILLED.refuses("census(0, 0, 24, 5), FULL", OUTSIDE, x -> x.census(0, 0, 24, 5));
    }

    private static void taken() {
        Due.sentence("the NUMBER. BAD: k; -11: none such; -13.");
        for (At at : At.values()) {
            for (int k : outside(0, 5)) {
                at.refuses("taken(0, " + k + ")", BAD, x -> x.taken(0, k));
                at.refuses("taken(9, " + k + ")", BAD, x -> x.taken(9, k));
            }
            for (int one : outside(0, at.people - 1)) {
                for (int k = 0; k <= 5; k++) {
                    int its = k;
                    at.refuses("taken(" + one + ", " + k + ")", NOTHING, x -> x.taken(one, its));
                }
            }
        }
        int[][] other = {{0, 1}, {0, 2}, {0, 3}, {0, 4}, {0, 5}, {1, 2}, {1, 3}, {1, 5}, {2, 1}, {2, 3}, {2, 5}, {3, 1},
            {3, 2}, {3, 3}, {3, 4}};
        for (int[] a : other) {
            At.BUSY.refuses("taken(" + a[0] + ", " + a[1] + ")", OTHER, x -> x.taken(a[0], a[1]));
        }
    }
}
