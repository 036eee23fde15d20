import java.util.ArrayList;
import java.util.List;
import java.util.function.Consumer;
import java.util.function.Supplier;
import java.util.function.ToLongFunction;

/** What each call that isn't refused changes, and that it leaves all else as it was. */
final class LeavesTest {
    private static final String EMPTY = Everything.of(new CountsIfCounted());
    private static final String BUSY = Everything.of(Countries.busy());
    private static final String FILLED = Everything.of(Countries.filled());

    public static void main(String[] args) {
        asking();
        askingInThought();
        askingOfNobody();
        setsOne();
        personAddsOne();
        feedsTheTape();
        textTakesTheTape();
        forceChangesTheRule();
        dayLeavesTheHost();
        imageIsNotSeen();
        backLaysBack();
        filmsOneSheet();
        sheetsOne();
        cellsOne();
        copiesOne();
        censusAdds();
        objectsAreApart();
        Due.end();
    }

    private static void unchanged(String call, Supplier<CountsIfCounted> country, String was, ToLongFunction<CountsIfCounted> asked) {
        CountsIfCounted x = country.get();
        long first = asked.applyAsLong(x);
        Due.is(call + " asked again", asked.applyAsLong(x), first);
        Due.that(call + " leaves all as it was", Everything.of(x).equals(was));
    }

    private static void leavesBusy(String call, ToLongFunction<CountsIfCounted> asked) {
        unchanged(call, Countries::busy, BUSY, asked);
    }

    // ---- calls that only answer

    private static void asking() {
        for (int what = 0; what <= 12; what++) {
            int its = what;
            leavesBusy("told(1, " + what + ")", x -> x.told(1, its));
            unchanged("told(4, " + what + ")", Countries::filled, FILLED, x -> x.told(4, its));
        }
        for (int what = 0; what <= 5; what++) {
            int its = what;
            leavesBusy("count(" + what + ")", x -> x.count(its));
            leavesBusy("taken(2, " + what + ")", x -> x.taken(2, its));
        }
        leavesBusy("self(0)", x -> x.self(0));
        leavesBusy("self(1)", x -> x.self(1));
    }

    private static void askingInThought() {
        for (int step = -1; step <= 1; step++) {
            int its = step;
            for (int what : new int[] {0, 1, 10, 13, 20, 23}) {
                leavesBusy("run(40, " + step + ", " + what + ")", x -> x.run(40, its, what));
                unchanged("run(9, " + step + ", " + what + ")", Countries::filled, FILLED, x -> x.run(9, its, what));
            }
            for (int house = 0; house < 8; house++) {
                int where = house;
                leavesBusy("when(" + house + ", " + step + ")", x -> x.when(where, its));
            }
            for (int what = 0; what <= 7; what++) {
                int asked = what;
                leavesBusy("tells(2, 3, " + step + ", " + what + ")", x -> x.tells(2, 3, its, asked));
                leavesBusy("tells(0, 0, " + step + ", " + what + ")", x -> x.tells(0, 0, its, asked));
            }
            leavesBusy("begin(20, " + step + ", 0)", x -> x.begin(20, its, 0));
            leavesBusy("begin(20, " + step + ", 1)", x -> x.begin(20, its, 1));
        }
        for (int n = 0; n <= 6; n++) {
            int its = n;
            leavesBusy("row(" + n + ", 0)", x -> x.row(its, 0));
            leavesBusy("row(" + n + ", 1)", x -> x.row(its, 1));
        }
        for (int what = 0; what <= 3; what++) {
            int its = what;
            leavesBusy("walks(0, " + what + ")", x -> x.walks(0, its));
            leavesBusy("walks(1, " + what + ")", x -> x.walks(1, its));
        }
        for (int seed = -3; seed <= 3; seed++) {
            int its = seed;
            leavesBusy("drawn(" + seed + ", 40)", x -> x.drawn(its, 40));
            leavesBusy("chance(" + seed + ", 20, 2, 0)", x -> x.chance(its, 20, 2, 0));
            leavesBusy("chance(" + seed + ", 20, 2, 1)", x -> x.chance(its, 20, 2, 1));
        }
        for (Supplier<CountsIfCounted> country : List.<Supplier<CountsIfCounted>>of(Countries::busy, Countries::filled)) {
            String was = Everything.of(country.get());
            unchanged("holds(0)", country, was, x -> x.holds(0));
            unchanged("holds(1)", country, was, x -> x.holds(1));
        }
    }

    private static void askingOfNobody() {
        unchanged("run", CountsIfCounted::new, EMPTY, x -> x.run(40, 1, 0));
        unchanged("when", CountsIfCounted::new, EMPTY, x -> x.when(3, 1));
        unchanged("row", CountsIfCounted::new, EMPTY, x -> x.row(6, 0));
        unchanged("begin", CountsIfCounted::new, EMPTY, x -> x.begin(20, -1, 0));
        unchanged("holds", CountsIfCounted::new, EMPTY, x -> x.holds(1));
        unchanged("drawn", CountsIfCounted::new, EMPTY, x -> x.drawn(7, 40));
        unchanged("chance", CountsIfCounted::new, EMPTY, x -> x.chance(7, 20, 0, 1));
    }

    // ---- calls that change the country: an IMAGE from just ahead lays it back, and then all is as it was

    private static CountsIfCounted kept() {
        CountsIfCounted x = Countries.busy();
        x.image();
        return x;
    }

    private static void laidBack(String call, Consumer<CountsIfCounted> change) {
        CountsIfCounted x = kept();
        change.accept(x);
        x.back();
        Due.that(call + " leaves texts, THE TAPE, SHEETS, THE IMAGE as they were", Everything.of(x).equals(Everything.of(kept())));
    }

    private static List<String> seen(CountsIfCounted x) {
        List<String> all = new ArrayList<>();
        for (int what = 0; what <= 5; what++) {
            all.add("count " + what + " is " + x.count(what));
        }
        for (int what : new int[] {0, 1, 2, 11, 12}) {
            all.add("told " + what + " is " + x.told(0, what));
        }
        for (int house = 0; house < 8; house++) {
            all.add("who is AT " + house + " is " + x.told(house, 10));
        }
        for (int one = 0; one < x.count(0); one++) {
            for (int what = 3; what <= 9; what++) {
                all.add("told " + what + " of " + one + " is " + x.told(one, what));
            }
        }
        return all;
    }

    /** COUNTERS under TEXT 0: what they MAKE and how they GO hangs on nothing that set() sets. */
    private static CountsIfCounted counters() {
        CountsIfCounted x = new CountsIfCounted();
        for (int i = 0; i < 5; i++) {
            x.person(0, i, 10 * i, i);
        }
        x.set(2, 0, 3);
        return x;
    }

    private static void changes(String call, Consumer<CountsIfCounted> change, String... due) {
        CountsIfCounted x = counters();
        List<String> was = seen(x);
        change.accept(x);
        List<String> other = seen(x);
        other.removeAll(was);
        Due.that(call + " changes " + other + ", due is " + List.of(due), other.equals(List.of(due)));
    }

    private static void setsOne() {
        changes("DAY", x -> x.set(0, 3, 500), "count 2 is 500", "told 0 is 500");
        changes("THE CLERK", x -> x.set(1, 3, 6), "told 1 is 6");
        changes("GOOD", x -> x.set(2, 3, 0b11000001), "count 1 is 3", "told 2 is 193");
        for (int one = 0; one < 5; one++) {
            int its = one;
            changes("NUMBER", x -> x.set(3, its, 9), "told 3 of " + one + " is 9");
            changes("JOY", x -> x.set(4, its, 99), "told 4 of " + one + " is 99");
            changes("AT", x -> x.set(5, its, 7), "who is AT " + one + " is 0", "who is AT 7 is " + (1 << one), "told 5 of " + one + " is 7");
            changes("SEEN", x -> x.set(6, its, 98), "told 6 of " + one + " is 98");
        }
        int[] v = {998, 6, 0b1000, 1, 1, 6, 1};
        for (int what = 0; what <= 6; what++) {
            int its = what;
            laidBack("set(" + what + ")", x -> x.set(its, 0, v[its]));
        }
    }

    private static void personAddsOne() {
        CountsIfCounted x = Countries.busy();
        List<String> was = seen(x);
        x.person(0, 9, 99, 5);
        List<String> other = seen(x);
        other.removeAll(was);
        Due.that("3: who comes changes " + other, other.equals(List.of("count 0 is 5", "who is AT 5 is 16",
                "told 3 of 4 is 9", "told 4 of 4 is 99", "told 5 of 4 is 5", "told 6 of 4 is 0", "told 7 of 4 is 0",
                "told 8 of 4 is 12", "told 9 of 4 is 1009")));
        laidBack("person()", y -> y.person(3, 1, 2, 3));
    }

    private static void feedsTheTape() {
        changes("feed", x -> x.feed(0), "count 4 is 1");
        changes("feed", x -> x.feed(255), "count 4 is 1");
        CountsIfCounted x = Countries.busy();
        CountsIfCounted y = Countries.busy();
        x.feed('\n');
        Due.is("a blank more leaves the TEXT what it is", x.text(), y.text());
        Due.that("feed() leaves all else as it was", Everything.of(x).equals(Everything.of(y)));
    }

    private static void textTakesTheTape() {
        changes("text, a FAULT", x -> Due.textOf(x, "counts 1;joys"));
        changes("text", x -> Due.textOf(x, "counts 5;joys 5;goes 5;"), "count 3 is 2");
        CountsIfCounted x = Countries.busy();
        CountsIfCounted y = Countries.busy();
        x.text();
        y.text();
        Due.is("a FAULT", x.text(), -100);
        Due.that("a FAULT leaves all as it was", Everything.of(x).equals(Everything.of(y)));
    }

    private static void forceChangesTheRule() {
        changes("force(0)", x -> x.force(0));
        changes("force(1)", x -> {
            Due.textOf(x, "counts 12;joys 5;goes 0;");
            x.force(1);
        }, "count 3 is 2", "count 5 is 1");
        for (int text = 0; text < 3; text++) {
            int its = text;
            laidBack("force(" + text + ")", x -> x.force(its));
        }
    }

    private static void dayLeavesTheHost() {
        for (int step = -1; step <= 1; step++) {
            int its = step;
            laidBack("day(" + step + ")", x -> x.day(its));
            laidBack("nine days", x -> {
                for (int i = 0; i < 9; i++) {
                    x.day(its);
                }
            });
        }
        changes("day(-1)", x -> x.day(-1), "count 2 is 1", "told 0 is 1", "told 1 is 7");
        changes("day(0)", x -> x.day(0), "count 2 is 1", "told 0 is 1", "told 11 is 12", "told 12 is 1",
                "told 4 of 0 is 1", "told 6 of 0 is 1");
        changes("day(1)", x -> x.day(1), "count 2 is 1", "told 0 is 1", "told 1 is 1", "told 11 is 12", "told 12 is 1",
                "told 4 of 1 is 11", "told 6 of 1 is 1");
    }

    private static void imageIsNotSeen() {
        changes("image", x -> x.image());
        CountsIfCounted x = kept();
        x.image();
        Due.that("image() twice is image() once", Everything.of(x).equals(Everything.of(kept())));
    }

    private static void backLaysBack() {
        changes("back() to now", x -> {
            x.image();
            x.back();
        });
        CountsIfCounted x = kept();
        x.back();
        x.back();
        Due.that("THE IMAGE stays", Everything.of(x).equals(Everything.of(kept())));
        laidBack("all that can be laid back", y -> {
            y.person(3, 1, 2, 3);
            y.force(1);
            for (int one = 0; one < 5; one++) {
                for (int what = 3; what <= 6; what++) {
                    y.set(what, one, 6);
                }
            }
            y.set(0, 0, 700);
            y.set(1, 0, 4);
            y.set(2, 0, 0b101);
            y.day(1);
            y.day(1);
        });
    }

    // ---- calls that change a SHEET: laid as it was by hand, all is as it was

    private static void oneSheet(String call, Consumer<CountsIfCounted> change, Consumer<CountsIfCounted> undo) {
        CountsIfCounted x = Countries.busy();
        change.accept(x);
        Due.that(call + " changes its SHEET", !Everything.of(copyOf(change)).equals(BUSY));
        undo.accept(x);
        Due.that(call + " leaves all else as it was", Everything.of(x).equals(BUSY));
    }

    private static CountsIfCounted copyOf(Consumer<CountsIfCounted> change) {
        CountsIfCounted x = Countries.busy();
        change.accept(x);
        return x;
    }

    private static void filmsOneSheet() {
        oneSheet("film(3)", x -> x.film(3, 1, 20), x -> x.sheet(3, -1, 0));
        oneSheet("film(0)", x -> x.film(0, -1, 0), x -> Countries.steps(x, 0, 0, 5));
        oneSheet("film(2)", x -> x.film(2, 0, 20), x -> x.film(2, 1, 20));
    }

    private static void sheetsOne() {
        for (int sort = 0; sort <= 2; sort++) {
            int its = sort;
            oneSheet("sheet(3)", x -> x.sheet(3, its, 40), x -> x.sheet(3, -1, 9));
            oneSheet("sheet(0)", x -> x.sheet(0, its, 0), x -> Countries.steps(x, 0, 0, 5));
            oneSheet("sheet(1)", x -> x.sheet(1, its, 40), x -> Countries.steps(x, 1, 1, 20));
            oneSheet("sheet(2)", x -> x.sheet(2, its, 19), x -> x.film(2, 1, 20));
        }
        oneSheet("sheet(0), missing", x -> x.sheet(0, -1, 0), x -> Countries.steps(x, 0, 0, 5));
    }

    private static void cellsOne() {
        for (int i = 0; i < 20; i++) {
            int its = i;
            oneSheet("cell(1, " + i + ")", x -> x.cell(1, its, 2), x -> Countries.steps(x, 1, 1, 20));
            oneSheet("cell(2, " + i + ")", x -> x.cell(2, its, -9), x -> x.film(2, 1, 20));
        }
    }

    private static void copiesOne() {
        oneSheet("copy to itself", x -> x.copy(0, 0, 0, 2, 3), x -> Countries.steps(x, 0, 0, 5));
        oneSheet("copy to another", x -> {
            x.sheet(3, 1, 20);
            x.copy(1, 0, 3, 0, 20);
        }, x -> x.sheet(3, -1, 0));
        leavesBusy("copy of none", x -> x.copy(0, 5, 0, 5, 0));
        leavesBusy("copy to where it was", x -> x.copy(1, 0, 1, 0, 20));
    }

    private static void censusAdds() {
        laidBack("census(), who comes", x -> {
            x.sheet(3, 0, 4);
            x.census(3, 0, 0, 1);
            x.sheet(3, -1, 0);
        });
        leavesBusy("census() of none", x -> x.census(0, 0, 0, 0));
        leavesBusy("census(): of no KIND", x -> x.census(1, 1, 0, 5));
        unchanged("census(): none has room", Countries::filled, FILLED, x -> x.census(0, 0, 0, 5));
    }

    private static void objectsAreApart() {
        CountsIfCounted x = Countries.busy();
        CountsIfCounted y = new CountsIfCounted();
        CountsIfCounted z = Countries.filled();
        y.day(1);
        Due.that("an object is not changed by another's calls", Everything.of(x).equals(BUSY));
        Due.that("an object is not changed by another's being seen", Everything.of(z).equals(FILLED));
        Due.that("a new object is as all new ones", Everything.of(new CountsIfCounted()).equals(EMPTY));
    }
}
