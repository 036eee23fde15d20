/** Promises 12 to 15: row, begin, holds, self. */
final class BestTest {
    private static final int MIN = Integer.MIN_VALUE, MAX = Integer.MAX_VALUE;
    private static final long NO = -4611686018427387904L;

    public static void main(String[] args) {
        rows();
        likeRows();
        rowRefuses();
        begins();
        beginRefuses();
        out();
        bring();
        self();
        Due.end();
    }

    private static CountsIfCounted withCountersAt(int... houses) {
        CountsIfCounted x = new CountsIfCounted();
        for (int house : houses) {
            x.person(0, 0, 0, house);
        }
        return x;
    }

    private static void rows() {
        CountsIfCounted x = withCountersAt(1, 2, 7);
        String was = Due.all(x);
        Due.is("12: no STEPS", x.row(0, 0), 0);
        Due.is("12: no STEPS", x.row(0, 1), 0);
        Due.is("12: 1, back first", x.row(1, 0), 1);
        Due.is("12: 1", x.row(1, 1), 1);
        Due.is("12: 2: on and on", x.row(2, 0), 33);
        Due.is("12: 2", x.row(2, 1), 2);
        Due.is("12: 3: none better, the first by STEPS", x.row(3, 0), 133);
        Due.is("12: 3: how many", x.row(3, 1), 2);
        Due.is("12: 4", x.row(4, 0), 1333);
        Due.is("12: 4: how many", x.row(4, 1), 3);
        Due.is("12: 6", x.row(6, 1), 3);
        Due.that("12: in thought", was.equals(Due.all(x)));
        CountsIfCounted y = withCountersAt(4, 3, 5);
        y.set(2, 0, 1);
        Due.is("12: GOOD ones stay", y.row(2, 1), 1);
        Due.is("12: 6: what is GOOD now, too", y.row(6, 1), 4);
        Due.is("12: 6: back", y.row(6, 0), 111111);
    }

    private static void likeRows() {
        CountsIfCounted x = new CountsIfCounted();
        Due.is("12: nobody: the first", x.row(6, 0), 111111);
        x.person(0, 0, 0, 0);
        Due.is("12: STEP 0 is ahead of 1", x.row(1, 0), 2);
        Due.is("12: back and on", x.row(2, 0), 13);
        Due.is("12: back, 0, on", x.row(3, 0), 123);
        x.person(2, 3, 99, 7);
        x.set(2, 0, 128);
        Due.is("12: what makes a HOUSE not GOOD is not gone", x.row(2, 0), 22);
        Due.is("12: how many", x.row(2, 1), 2);
    }

    private static void rowRefuses() {
        CountsIfCounted x = new CountsIfCounted();
        int[][] bad = {{-1, 0}, {7, 0}, {0, -1}, {0, 2}, {MIN, 0}, {MAX, 1}, {0, MIN}, {0, MAX}};
        for (int[] one : bad) {
            Due.is("12: BAD", x.row(one[0], one[1]), -2);
        }
    }

    private static void begins() {
        CountsIfCounted x = withCountersAt(4, 5, 7);
        String was = Due.all(x);
        Due.is("13: no DAY: the first", x.begin(0, 1, 0), 0);
        Due.is("13: no DAY", x.begin(0, 1, 1), 0);
        Due.is("13: 1 on", x.begin(1, 1, 0), 3);
        Due.is("13: 1 back", x.begin(1, -1, 0), 0);
        Due.is("13: 1 back, how many", x.begin(1, -1, 1), 1);
        Due.is("13: stays", x.begin(3, 0, 0), 4);
        Due.is("13: stays, how many", x.begin(3, 0, 1), 1);
        Due.is("13: 2 on", x.begin(2, 1, 0), 3);
        Due.is("13: 2 on, how many", x.begin(2, 1, 1), 2);
        Due.is("13: 4 on", x.begin(4, 1, 0), 3);
        Due.is("13: 4 on, how many", x.begin(4, 1, 1), 3);
        Due.is("13: 20 on: the first", x.begin(20, 1, 0), 0);
        Due.is("13: 20 on", x.begin(20, 1, 1), 3);
        Due.that("13: in thought", was.equals(Due.all(x)));
    }

    private static void beginRefuses() {
        CountsIfCounted x = new CountsIfCounted();
        int[][] bad = {{-1, 0, 0}, {21, 0, 0}, {0, -2, 0}, {0, 2, 0}, {0, 0, -1}, {0, 0, 2},
            {MIN, 0, 0}, {MAX, 0, 0}, {0, MIN, 0}, {0, MAX, 0}, {0, 0, MIN}, {0, 0, MAX}};
        for (int[] one : bad) {
            Due.is("13: BAD", x.begin(one[0], one[1], one[2]), -2);
        }
    }

    private static void out() {
        CountsIfCounted x = new CountsIfCounted();
        Due.is("14: nobody", x.holds(0), 0);
        x.person(0, 0, 0, 0);
        x.person(2, 1, 0, 0);
        x.person(2, 1, 0, 1);
        x.person(5, 1, 0, 0);
        Due.is("14: OUT", x.holds(0), 10);
        x.set(1, 0, 1);
        Due.is("14: OUT elsewhere", x.holds(0), 4);
        x.set(1, 0, 2);
        Due.is("14: OUT of an empty HOUSE", x.holds(0), 0);
        Due.is("14: BAD", x.holds(-1), -2);
        Due.is("14: BAD", x.holds(2), -2);
        Due.is("14: BAD", x.holds(MIN), -2);
        Due.is("14: BAD", x.holds(MAX), -2);
    }

    private static void bring() {
        CountsIfCounted x = new CountsIfCounted();
        Due.is("14: nobody", x.holds(1), -1);
        x.person(2, 3, 0, 0);
        x.person(0, 0, 0, 5);
        Due.is("14: who is there spoils it", x.holds(1), -1);
        x.set(1, 0, 3);
        String was = Due.all(x);
        Due.is("14: BRING one to an empty HOUSE", x.holds(1), 1);
        Due.that("14: in thought", was.equals(Due.all(x)));
        x.set(3, 0, 0);
        Due.is("14: of like ones the first", x.holds(1), 0);
        CountsIfCounted y = new CountsIfCounted();
        y.person(3, 0, 0, 0);
        y.person(0, 0, 0, 1);
        y.person(1, 0, 0, 2);
        Due.is("14: a CHILD MAKES 24", y.holds(0), 1);
        Due.is("14: a COUNTER helps none, a TWIN's share is 6", y.holds(1), -1);
        CountsIfCounted z = new CountsIfCounted();
        z.person(5, 0, 0, 0);
        Due.is("14: who is there already", z.holds(1), 0);
        z.set(0, 0, 999);
        Due.is("14: DAY may pass 999", z.holds(1), 0);
        CountsIfCounted w = new CountsIfCounted();
        w.person(4, 6, 0, 4);
        Due.is("14: a WIDOW alone", w.holds(1), 0);
        w.person(0, 0, 0, 0);
        Due.is("14: a WIDOW with another: only the other one as he is", w.holds(1), 1);
    }

    private static void self() {
        CountsIfCounted x = new CountsIfCounted();
        Due.is("15: NO: TIMES is 0", x.self(0), NO);
        Due.is("15: NO: TIMES is 0", x.self(1), NO);
        x.person(5, 9, 0, 0);
        x.set(0, 0, 1);
        x.day(0);
        Due.is("15: 0 by 12", x.self(0), 0);
        Due.is("15: 0 in lowest terms", x.self(1), 1);
        x.person(2, 2, 0, 0);
        x.day(0);
        Due.is("15: 10 by 36", x.self(0), 5);
        Due.is("15: 10 by 36", x.self(1), 18);
        for (int part : new int[] {-1, 2, MIN, MAX}) {
            Due.is("15: NO: part", x.self(part), NO);
        }
        CountsIfCounted y = new CountsIfCounted();
        y.person(3, 0, 0, 0);
        y.day(0);
        Due.is("15: 24 by 12", y.self(0), 2);
        Due.is("15: 24 by 12", y.self(1), 1);
    }
}
