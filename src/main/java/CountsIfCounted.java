import java.util.Arrays;

/** He counts only if he has been counted. What each call promises stands in ../shared/DOC.md. */
public final class CountsIfCounted {
    public static final int NONE = -1, BAD = -2, STATE = -3, FULL = -4;
    public static final long NO = -4611686018427387904L;

    private static final int NOTHING = -11, OUTSIDE = -12, OTHER_SORT = -13, BELOW_ZERO = -14;
    private static final int NO_SUCH = -1000, FAULTY = -100, GOES_MORE = 1000;

    private static final int HOUSES = 8, ONE = 12;
    private static final int MOST_PEOPLE = 5, MOST_NUMBER = 9, MOST_JOY = 99, MOST_SEEN = 99;
    private static final int MOST_SUM = 99999, MOST_TIMES = 9999, LAST_DAY = 999;
    private static final int MOST_MADE = 99, MOST_BY_RULE = 99;

    private static final int COUNTER = 0, TWIN = 1, ENEMY = 2, CHILD = 3, WIDOW = 4, BLIND = 5;
    private static final int KINDS = 6;
    /** The KIND that each KIND is under. */
    private static final int[] ABOVE = {NONE, COUNTER, COUNTER, TWIN, ENEMY, COUNTER};

    private static final int DAY = 0, CLERK = 1, GOOD = 2, NUMBER = 3, JOY = 4, HOUSE = 5, SEEN = 6;
    private static final int KIND = 7, MAKES = 8, GOES = 9, WHO = 10, SUM = 11, TIMES = 12;
    /** The highest number that set() takes, by what it sets. */
    private static final int[] HIGHEST =
            {LAST_DAY, HOUSES - 1, (1 << HOUSES) - 1, MOST_NUMBER, MOST_JOY, HOUSES - 1, MOST_SEEN};
    private static final int[] ASKED_OF_WALKS = {GOOD, SUM, TIMES, CLERK};

    private static final int PARTS = 3, COUNTS_PART = 0, JOYS_PART = 1, GOES_PART = 2;
    private static final int NAMES = 6, MOST_TEXTS = 6, MOST_BYTES = 160, MOST_OPEN = 5;
    /** In a TEXT's code a number from 0 on is itself, and -1 .. -6 are the NAMES. */
    private static final int[] FIRST_RULE = {ONE, 1, 0};
    private static final int[] FIRST_ENDS = {1, 2, 3};
    /** Six levels (5 of them open) with five values that wait at most, and the one at hand. */
    private static final int MOST_WAITING = 6 * 5 + 1;

    /** From these numbers on run() is asked where each one is AT, and for its JOY. */
    private static final int FIRST_WHERE = 10, FIRST_JOY = 20;
    private static final int MOST_RUN = 40, MOST_WHEN = 60, MOST_ROW = 6, MOST_BEGIN = 20;
    private static final int MOST_TOLD = 20, MOST_DRAWN = 40, MOST_SEEDS = 20, DAYS_OF_CHANCE = 10;

    private static final int SHEETS = 4, MOST_ITEMS = 40, ITEMS_OF_ONE = 4;
    private static final int MISSING = -1, BYTES = 0, SHORTS = 1, INTS = 2;

    private final Text[] texts = new Text[MOST_TEXTS];
    private final Reader reader = new Reader();
    private final Sheet[] sheets = new Sheet[SHEETS];
    private final Country now;
    private final Country thought;
    private final Country kept;
    /** The country behind 0, 1, .. STEPS of the ROW that is tried: like beginnings are walked once. */
    private final Country[] path = new Country[MOST_ROW + 1];
    private int textCount = 1;
    private int bestRow;
    private int mostGood;
    private boolean isKept;

    public CountsIfCounted() {
        Text first = new Text(0, FIRST_RULE, FIRST_ENDS);
        texts[0] = first;
        now = new Country(first);
        thought = new Country(first);
        kept = new Country(first);
        for (int i = 0; i < path.length; i++) {
            path[i] = new Country(first);
        }
        for (int i = 0; i < sheets.length; i++) {
            sheets[i] = new Sheet();
        }
    }

    // ---- the country, the clerk, people

    public int set(int what, int of, int v) {
        if (what < 0 || what >= HIGHEST.length || !isUpTo(v, HIGHEST[what])) {
            return BAD;
        }
        if (what >= NUMBER && !now.isOne(of)) {
            return BAD;
        }
        int was = now.look(what, of);
        now.lay(what, of, v);
        return was;
    }

    public int person(int kind, int number, int joy, int house) {
        if (!isPerson(kind, number, joy, house)) {
            return BAD;
        }
        if (now.people >= MOST_PEOPLE) {
            return FULL;
        }
        return now.add(kind, number, joy, house);
    }

    public int told(int of, int what) {
        if (!isUpTo(what, TIMES)) {
            return NO_SUCH;
        }
        if (what >= NUMBER && what <= GOES && !now.isOne(of)) {
            return NO_SUCH;
        }
        if (what == WHO && !isHouse(of)) {
            return NO_SUCH;
        }
        return now.look(what, of);
    }

    // ---- texts

    public int feed(int letter) {
        if (!isUpTo(letter, 255)) {
            return BAD;
        }
        if (reader.size >= MOST_BYTES) {
            return FULL;
        }
        return reader.take(letter);
    }

    public int text() {
        if (textCount >= MOST_TEXTS) {
            return FULL;
        }
        int fault = reader.read();
        reader.size = 0;
        if (fault != NONE) {
            return FAULTY - fault;
        }
        texts[textCount] = reader.asText(textCount);
        return textCount++;
    }

    public int force(int text) {
        if (text < 0 || text >= textCount) {
            return BAD;
        }
        int was = now.rule.place;
        now.rule = texts[text];
        return was;
    }

    // ---- days

    public int day(int step) {
        if (!isStep(step)) {
            return BAD;
        }
        if (now.day >= LAST_DAY) {
            return STATE;
        }
        now.pass(step);
        return now.good;
    }

    public int walks(int sheet, int what) {
        if (!isSheet(sheet) || what < 0 || what >= ASKED_OF_WALKS.length) {
            return BAD;
        }
        Sheet steps = sheets[sheet];
        if (steps.isMissing()) {
            return NOTHING;
        }
        if (steps.size > MOST_TOLD || !steps.hasStepsAlone()) {
            return BAD;
        }
        thought.become(now);
        for (int i = 0; i < steps.size; i++) {
            thought.pass(steps.items[i]);
        }
        return thought.look(ASKED_OF_WALKS[what], 0);
    }

    public int run(int n, int step, int what) {
        if (!isUpTo(n, MOST_RUN) || !isStep(step) || what < 0) {
            return BAD;
        }
        boolean isJoy = what >= FIRST_JOY;
        int one = what - (isJoy ? FIRST_JOY : FIRST_WHERE);
        if (what > 1 && !now.isOne(one)) {
            return BAD;
        }
        thought.become(now);
        think(n, step);
        if (what <= 1) {
            return what == 0 ? thought.good : thought.sum;
        }
        return thought.look(isJoy ? JOY : HOUSE, one);
    }

    public int when(int house, int step) {
        if (!isHouse(house) || !isStep(step)) {
            return BAD;
        }
        thought.become(now);
        for (int n = 0; n <= MOST_WHEN; n++) {
            if (thought.isGood(house)) {
                return n;
            }
            thought.pass(step);
        }
        return NONE;
    }

    private void think(int n, int step) {
        for (int i = 0; i < n; i++) {
            thought.pass(step);
        }
    }

    // ---- what would be best

    public int row(int n, int what) {
        if (!isUpTo(n, MOST_ROW) || !isUpTo(what, 1)) {
            return BAD;
        }
        bestRow = 0;
        mostGood = NONE;
        path[0].become(now);
        tryRows(0, n, 0);
        return what == 0 ? bestRow : mostGood;
    }

    private void tryRows(int gone, int n, int digits) {
        Country here = path[gone];
        if (gone >= n || gone + 1 >= path.length) {
            if (here.goodCount() > mostGood) {
                mostGood = here.goodCount();
                bestRow = digits;
            }
            return;
        }
        Country next = path[gone + 1];
        for (int step = -1; step <= 1; step++) {
            next.become(here);
            next.pass(step);
            tryRows(gone + 1, n, digits * 10 + step + 2);
        }
    }

    public int begin(int n, int step, int what) {
        if (!isUpTo(n, MOST_BEGIN) || !isStep(step) || !isUpTo(what, 1)) {
            return BAD;
        }
        int best = 0;
        int most = NONE;
        for (int house = 0; house < HOUSES; house++) {
            thought.become(now);
            thought.clerk = house;
            think(n, step);
            if (thought.goodCount() > most) {
                most = thought.goodCount();
                best = house;
            }
        }
        return what == 0 ? best : most;
    }

    public int holds(int what) {
        if (!isUpTo(what, 1)) {
            return BAD;
        }
        return what == 0 ? now.whoHoldsOut() : whoShouldCome();
    }

    private int whoShouldCome() {
        for (int i = 0; i < now.people; i++) {
            thought.become(now);
            thought.house[i] = now.clerk;
            thought.pass(0);
            if (thought.isGood(now.clerk)) {
                return i;
            }
        }
        return NONE;
    }

    public long self(int part) {
        if (!isUpTo(part, 1) || now.times == 0) {
            return NO;
        }
        return lowest(now.sum, (long) ONE * now.times, part);
    }

    // ---- sums that were told

    public int tells(int sheet, int one, int step, int what) {
        if (!isSheet(sheet) || !now.isOne(one) || !isStep(step) || !isUpTo(what, 7)) {
            return BAD;
        }
        Sheet sums = sheets[sheet];
        if (sums.isMissing()) {
            return NOTHING;
        }
        if (sums.size > MOST_TOLD) {
            return BAD;
        }
        thought.become(now);
        if (what == 0) {
            return firstOther(sums, step);
        }
        int bits = 0;
        int fit = 0;
        int least = NONE;
        for (int v = 0; v < candidates(what); v++) {
            thought.become(now);
            suppose(what, one, v);
            if (firstOther(sums, step) == NONE) {
                bits |= 1 << v;
                fit++;
                least = least == NONE ? v : least;
            }
        }
        return what == 3 ? fit : what == 4 ? least : bits;
    }

    private int candidates(int what) {
        switch (what) {
            case 1: return KINDS;
            case 2: return MOST_NUMBER + 1;
            case 3:
            case 4: return MOST_JOY + 1;
            case 5:
            case 6: return HOUSES;
            default: return textCount;
        }
    }

    private void suppose(int what, int one, int v) {
        switch (what) {
            case 1: thought.kind[one] = v; break;
            case 2: thought.number[one] = v; break;
            case 3:
            case 4: thought.joy[one] = v; break;
            case 5: thought.house[one] = v; break;
            case 6: thought.clerk = v; break;
            default: thought.rule = texts[v]; break;
        }
    }

    private int firstOther(Sheet sums, int step) {
        for (int i = 0; i < sums.size; i++) {
            thought.pass(step);
            if (thought.sum != sums.items[i]) {
                return i;
            }
        }
        return NONE;
    }

    public int film(int sheet, int step, int n) {
        if (!isSheet(sheet) || !isStep(step) || !isUpTo(n, MOST_TOLD)) {
            return BAD;
        }
        Sheet sums = sheets[sheet];
        sums.become(INTS, n);
        thought.become(now);
        for (int i = 0; i < n; i++) {
            thought.pass(step);
            sums.lay(i, thought.sum);
        }
        return n;
    }

    public int drawn(int seed, int n) {
        if (!isUpTo(n, MOST_DRAWN)) {
            return BAD;
        }
        return goodByDraws(seed, n);
    }

    public long chance(int seed, int m, int k, int part) {
        if (m < 1 || m > MOST_SEEDS || !isUpTo(k, HOUSES) || !isUpTo(part, 1)) {
            return NO;
        }
        int enough = 0;
        for (int i = 0; i < m; i++) {
            if (goodByDraws(seed + i, DAYS_OF_CHANCE) >= k) {
                enough++;
            }
        }
        return lowest(enough, m, part);
    }

    private int goodByDraws(int seed, int n) {
        thought.become(now);
        int z = seed;
        for (int i = 0; i < n; i++) {
            z = z * 1103515245 + 12345;
            thought.pass((z >>> 9) % 3 - 1);
        }
        return thought.goodCount();
    }

    public int image() {
        kept.become(now);
        isKept = true;
        return now.people;
    }

    public int back() {
        if (!isKept) {
            return STATE;
        }
        now.become(kept);
        return now.people;
    }

    public int count(int what) {
        switch (what) {
            case 0: return now.people;
            case 1: return now.goodCount();
            case 2: return now.day;
            case 3: return textCount;
            case 4: return reader.size;
            case 5: return now.rule.place;
            default: return BAD;
        }
    }

    // ---- the host

    public int sheet(int sheet, int sort, int n) {
        if (!isSheet(sheet) || (sort != MISSING && !isSort(sort))) {
            return BAD;
        }
        if (sort == MISSING) {
            sheets[sheet].become(MISSING, 0);
            return 1;
        }
        if (n > MOST_ITEMS) {
            return BAD;
        }
        if (n < 0) {
            return BELOW_ZERO;
        }
        sheets[sheet].become(sort, n);
        return 1;
    }

    public int cell(int sheet, int i, int v) {
        if (!isSheet(sheet)) {
            return BAD;
        }
        Sheet items = sheets[sheet];
        if (items.isMissing()) {
            return NOTHING;
        }
        if (!items.has(i)) {
            return OUTSIDE;
        }
        items.lay(i, v);
        return 1;
    }

    public int copy(int sheet, int i, int other, int j, int n) {
        if (!isSheet(sheet) || !isSheet(other)) {
            return BAD;
        }
        Sheet source = sheets[sheet];
        Sheet target = sheets[other];
        if (source.isMissing() || target.isMissing()) {
            return NOTHING;
        }
        if (source.sort != target.sort) {
            return OTHER_SORT;
        }
        if (!source.hasRun(i, n) || !target.hasRun(j, n)) {
            return OUTSIDE;
        }
        System.arraycopy(source.items, i, target.items, j, n);
        return n;
    }

    public int census(int sheet, int sort, int from, int n) {
        if (!isSheet(sheet) || !isSort(sort) || !isUpTo(n, MOST_PEOPLE)) {
            return BAD;
        }
        Sheet list = sheets[sheet];
        if (!list.isMissing() && list.sort != sort) {
            return OTHER_SORT;
        }
        if (list.isMissing()) {
            return NOTHING;
        }
        int came = 0;
        int at = from;
        for (int i = 0; i < n; i++) {
            if (!list.hasRun(at, ITEMS_OF_ONE)) {
                return OUTSIDE;
            }
            if (person(list.items[at], list.items[at + 1], list.items[at + 2], list.items[at + 3]) >= 0) {
                came++;
            }
            at += ITEMS_OF_ONE;
        }
        return came;
    }

    public int taken(int one, int k) {
        if (!isKind(k)) {
            return BAD;
        }
        if (!now.isOne(one)) {
            return NOTHING;
        }
        return isUnder(now.kind[one], k) ? now.number[one] : OTHER_SORT;
    }

    // ---- what numbers may be

    private static boolean isUpTo(int v, int highest) {
        return v >= 0 && v <= highest;
    }

    private static boolean isHouse(int house) {
        return isUpTo(house, HOUSES - 1);
    }

    private static boolean isKind(int kind) {
        return isUpTo(kind, KINDS - 1);
    }

    private static boolean isSheet(int sheet) {
        return isUpTo(sheet, SHEETS - 1);
    }

    private static boolean isSort(int sort) {
        return isUpTo(sort, INTS);
    }

    private static boolean isStep(int step) {
        return step >= -1 && step <= 1;
    }

    private static boolean isPerson(int kind, int number, int joy, int house) {
        return isKind(kind) && isUpTo(number, MOST_NUMBER) && isUpTo(joy, MOST_JOY) && isHouse(house);
    }

    private static boolean isUnder(int kind, int k) {
        int at = kind;
        for (int i = 0; i < KINDS && at >= 0 && at < ABOVE.length; i++) {
            if (at == k) {
                return true;
            }
            at = ABOVE[at];
        }
        return false;
    }

    private static int bound(int v, int lowest, int highest) {
        return Math.max(lowest, Math.min(highest, v));
    }

    /** Part 0 above, 1 below the line; below must be above 0. */
    private static long lowest(long above, long below, int part) {
        long a = above;
        long b = below;
        for (int i = 0; i < 64 && a != 0; i++) {
            long rest = b % a;
            b = a;
            a = rest;
        }
        if (b == 0) {
            return NO;
        }
        return part == 0 ? above / b : below / b;
    }

    /** All that an IMAGE keeps, and what days do to it: there is one truly, others in thought. */
    private static final class Country {
        int good;
        int day;
        int clerk;
        int sum;
        int times;
        int people;
        Text rule;
        final int[] kind = new int[MOST_PEOPLE];
        final int[] number = new int[MOST_PEOPLE];
        final int[] joy = new int[MOST_PEOPLE];
        final int[] house = new int[MOST_PEOPLE];
        final int[] seen = new int[MOST_PEOPLE];
        private final int[] made = new int[MOST_PEOPLE];
        private final int[] named = new int[NAMES];

        Country(Text rule) {
            this.rule = rule;
        }

        void become(Country other) {
            good = other.good;
            day = other.day;
            clerk = other.clerk;
            sum = other.sum;
            times = other.times;
            people = other.people;
            rule = other.rule;
            for (int i = 0; i < other.people; i++) {
                kind[i] = other.kind[i];
                number[i] = other.number[i];
                joy[i] = other.joy[i];
                house[i] = other.house[i];
                seen[i] = other.seen[i];
            }
        }

        int add(int itsKind, int itsNumber, int itsJoy, int itsHouse) {
            kind[people] = itsKind;
            number[people] = itsNumber;
            joy[people] = itsJoy;
            house[people] = itsHouse;
            seen[people] = 0;
            return people++;
        }

        boolean isOne(int who) {
            return who >= 0 && who < people;
        }

        boolean isGood(int which) {
            return (good >> which & 1) == 1;
        }

        int goodCount() {
            return Integer.bitCount(good);
        }

        int look(int what, int of) {
            switch (what) {
                case DAY: return day;
                case CLERK: return clerk;
                case GOOD: return good;
                case NUMBER: return number[of];
                case JOY: return joy[of];
                case HOUSE: return house[of];
                case SEEN: return seen[of];
                case KIND: return kind[of];
                case MAKES: return makes(of);
                case GOES: return goes(of) + GOES_MORE;
                case WHO: return whoIsAt(of);
                case SUM: return sum;
                default: return times;
            }
        }

        void lay(int what, int of, int v) {
            switch (what) {
                case DAY: day = v; break;
                case CLERK: clerk = v; break;
                case GOOD: good = v; break;
                case NUMBER: number[of] = v; break;
                case JOY: joy[of] = v; break;
                case HOUSE: house[of] = v; break;
                default: seen[of] = v; break;
            }
        }

        int whoHoldsOut() {
            int who = 0;
            for (int i = 0; i < people; i++) {
                if (house[i] == clerk && makes(i) != ONE) {
                    who |= 1 << i;
                }
            }
            return who;
        }

        void pass(int step) {
            clerk = Math.floorMod(clerk + step, HOUSES);
            meet();
            gladden();
            for (int i = 0; i < people; i++) {
                house[i] = Math.floorMod(house[i] + goes(i), HOUSES);
            }
            day++;
        }

        private void meet() {
            int there = 0;
            int justOne = 0;
            int more = 0;
            for (int i = 0; i < people; i++) {
                if (house[i] == clerk) {
                    made[i] = makes(i);
                    more += made[i];
                    there++;
                    justOne += made[i] == ONE ? 1 : 0;
                }
            }
            if (there == 0) {
                return;
            }
            sum = Math.min(MOST_SUM, sum + more);
            times = Math.min(MOST_TIMES, times + there);
            good = justOne == there ? good | 1 << clerk : good & ~(1 << clerk);
        }

        private void gladden() {
            for (int i = 0; i < people; i++) {
                if (house[i] == clerk) {
                    seen[i] = Math.min(MOST_SEEN, seen[i] + 1);
                    joy[i] = bound(joy[i] + gladdens(i), 0, MOST_JOY);
                }
            }
        }

        private int makes(int who) {
            if (kind[who] == BLIND) {
                return seen[who] >= number[who] ? ONE : 0;
            }
            return bound(makesUnbound(who, byRule(COUNTS_PART, who)), 0, MOST_MADE);
        }

        /** An ENEMY's is 0 at least by its own words, so a WIDOW's 6 come on top of that. */
        private int makesUnbound(int who, int counts) {
            switch (kind[who]) {
                case TWIN: return shared(counts, house[who]);
                case CHILD: return 2 * shared(counts, house[who]);
                case ENEMY: return Math.max(0, counts - number[who]);
                case WIDOW: return Math.max(0, counts - number[who]) + (isAlone(who) ? 6 : 0);
                default: return counts;
            }
        }

        private int shared(int counts, int which) {
            int twins = 0;
            for (int i = 0; i < people; i++) {
                if (house[i] == which && isUnder(kind[i], TWIN)) {
                    twins++;
                }
            }
            return twins == 0 ? 0 : counts / twins;
        }

        /** By what it MADE him, which seeing him may have changed since. */
        private int gladdens(int who) {
            switch (kind[who]) {
                case TWIN: return made[who] == ONE ? byRule(JOYS_PART, who) : 0;
                case CHILD: return number[who] + (made[who] == ONE ? byRule(JOYS_PART, who) : 0);
                case ENEMY: return -byRule(JOYS_PART, who);
                case WIDOW: return day % 2 == 1 ? -byRule(JOYS_PART, who) : 0;
                case BLIND: return 1;
                default: return byRule(JOYS_PART, who);
            }
        }

        private int goes(int who) {
            switch (kind[who]) {
                case TWIN: return 0;
                case CHILD: return joy[who] > 50 ? 1 : 0;
                case ENEMY: return -byRule(GOES_PART, who);
                case WIDOW: return -byRule(GOES_PART, who) / 2;
                case BLIND: return day % 5 == 0 ? 4 : 0;
                default: return byRule(GOES_PART, who);
            }
        }

        private int byRule(int part, int who) {
            named[0] = joy[who];
            named[1] = house[who];
            named[2] = number[who];
            named[3] = day;
            named[4] = goodCount();
            named[5] = seen[who];
            return bound(rule.value(part, named), part == COUNTS_PART ? 0 : -MOST_BY_RULE, MOST_BY_RULE);
        }

        private boolean isAlone(int who) {
            return whoIsAt(house[who]) == 1 << who;
        }

        private int whoIsAt(int which) {
            int who = 0;
            for (int i = 0; i < people; i++) {
                if (house[i] == which) {
                    who |= 1 << i;
                }
            }
            return who;
        }
    }

    /** A TEXT as code for a stack, so that no day reads its bytes again. */
    private static final class Text {
        final int place;
        private final int[] code;
        private final int[] ends;
        private final int[] waiting = new int[MOST_WAITING];

        Text(int place, int[] code, int[] ends) {
            this.place = place;
            this.code = code;
            this.ends = ends;
        }

        int value(int part, int[] named) {
            int top = 0;
            for (int i = part == 0 ? 0 : ends[part - 1]; i < ends[part]; i++) {
                int sign = code[i];
                if (sign >= -NAMES) {
                    if (top < waiting.length) {
                        waiting[top++] = sign >= 0 ? sign : named[-1 - sign];
                    }
                } else if (sign == Reader.LESS_THAN_0 || sign == Reader.NOT) {
                    if (top >= 1) {
                        waiting[top - 1] = byOne(sign, waiting[top - 1]);
                    }
                } else if (top >= 2) {
                    top--;
                    waiting[top - 1] = byTwo(sign, waiting[top - 1], waiting[top]);
                }
            }
            return waiting[0];
        }

        private static int byOne(int sign, int a) {
            if (sign == Reader.NOT) {
                return a == 0 ? 1 : 0;
            }
            return -a;
        }

        private static int byTwo(int sign, int a, int b) {
            switch (sign) {
                case -'+': return a + b;
                case -'-': return a - b;
                case -'*': return a * b;
                case -'<': return a < b ? 1 : 0;
                case -'=': return a == b ? 1 : 0;
                case Reader.AND: return a != 0 && b != 0 ? 1 : 0;
                default: return a != 0 || b != 0 ? 1 : 0;
            }
        }
    }

    /** THE TAPE, and what makes a TEXT of it or finds its FAULT. */
    private static final class Reader {
        /** TOKENS: a SIGN is its own byte, so these stay clear of the bytes. */
        private static final int END = 1000, UNKNOWN = 1001, DIGITS = 1002;
        private static final int WORD = 2000, WORDS = 12, COUNTS = WORD + NAMES;
        static final int OR = -(WORD + 9), AND = -(WORD + 10), NOT = -(WORD + 11);
        static final int LESS_THAN_0 = -3000;
        private static final int MOST_DIGITS = 4;

        int size;
        private final int[] tape = new int[MOST_BYTES];
        private final int[] code = new int[MOST_BYTES];
        private final int[] ends = new int[PARTS];
        private int codeSize;
        private int at;
        private int start;
        private int token;
        private int digits;
        private int open;
        private int fault;

        int take(int letter) {
            if (size < tape.length) {
                tape[size++] = letter;
            }
            return size;
        }

        Text asText(int place) {
            return new Text(place, Arrays.copyOf(code, codeSize), Arrays.copyOf(ends, ends.length));
        }

        int read() {
            codeSize = 0;
            at = 0;
            open = 0;
            fault = NONE;
            advance();
            for (int part = 0; part < ends.length; part++) {
                want(COUNTS + part);
                readE();
                want(';');
                ends[part] = codeSize;
            }
            want(END);
            return fault;
        }

        private void readE() {
            readAnd();
            for (int i = 0; i < size && token == -OR; i++) {
                advance();
                readAnd();
                write(OR);
            }
        }

        private void readAnd() {
            readNot();
            for (int i = 0; i < size && token == -AND; i++) {
                advance();
                readNot();
                write(AND);
            }
        }

        private void readNot() {
            if (token == -NOT) {
                if (opens()) {
                    readNot();
                    open--;
                    write(NOT);
                }
                return;
            }
            readSum();
            if (token == '<' || token == '=') {
                int sign = token;
                advance();
                readSum();
                write(-sign);
            }
        }

        private void readSum() {
            readTerm();
            for (int i = 0; i < size && (token == '+' || token == '-'); i++) {
                int sign = token;
                advance();
                readTerm();
                write(-sign);
            }
        }

        private void readTerm() {
            readOne();
            for (int i = 0; i < size && token == '*'; i++) {
                advance();
                readOne();
                write(-'*');
            }
        }

        private void readOne() {
            if (token == DIGITS) {
                write(digits);
                advance();
            } else if (token >= WORD && token < COUNTS) {
                write(WORD - 1 - token);
                advance();
            } else if (token == '-') {
                if (opens()) {
                    readOne();
                    open--;
                    write(LESS_THAN_0);
                }
            } else if (token == '(') {
                if (opens()) {
                    readE();
                    want(')');
                    open--;
                }
            } else {
                fail();
            }
        }

        /** Keeps the functions that call one another from going deeper than the document lets them. */
        private boolean opens() {
            if (open >= MOST_OPEN) {
                fail();
                return false;
            }
            open++;
            advance();
            return true;
        }

        private void want(int wanted) {
            if (token != wanted) {
                fail();
            } else if (token != END) {
                advance();
            }
        }

        /** No TOKEN is read behind a FAULT: what is UNKNOWN can stand nowhere, so all functions come to their end. */
        private void fail() {
            if (fault == NONE) {
                fault = start;
            }
            token = UNKNOWN;
        }

        private void write(int sign) {
            if (codeSize < code.length) {
                code[codeSize++] = sign;
            }
        }

        private void advance() {
            while (at < size && (tape[at] == 32 || tape[at] == 10)) {
                at++;
            }
            start = at;
            if (at >= size) {
                token = END;
            } else if (isLetter(tape[at])) {
                while (at < size && isLetter(tape[at])) {
                    at++;
                }
                token = word();
            } else if (isDigit(tape[at])) {
                while (at < size && isDigit(tape[at])) {
                    at++;
                }
                token = number();
            } else {
                token = isSign(tape[at]) ? tape[at] : UNKNOWN;
                at++;
            }
        }

        private int word() {
            for (int w = 0; w < WORDS; w++) {
                if (stands(wordAt(w))) {
                    return WORD + w;
                }
            }
            return UNKNOWN;
        }

        private boolean stands(String word) {
            if (at - start != word.length()) {
                return false;
            }
            for (int i = 0; i < word.length(); i++) {
                if (tape[start + i] != word.charAt(i)) {
                    return false;
                }
            }
            return true;
        }

        private int number() {
            if (at - start > MOST_DIGITS) {
                return UNKNOWN;
            }
            digits = 0;
            for (int i = start; i < at; i++) {
                digits = digits * 10 + tape[i] - '0';
            }
            return DIGITS;
        }

        private static boolean isLetter(int letter) {
            return letter >= 'a' && letter <= 'z';
        }

        private static boolean isDigit(int letter) {
            return letter >= '0' && letter <= '9';
        }

        private static boolean isSign(int letter) {
            switch (letter) {
                case '(':
                case ')':
                case ';':
                case '+':
                case '-':
                case '*':
                case '<':
                case '=': return true;
                default: return false;
            }
        }

        /** The NAMES in the order of their values, then the KEYS. */
        private static String wordAt(int w) {
            switch (w) {
                case 0: return "joy";
                case 1: return "house";
                case 2: return "number";
                case 3: return "day";
                case 4: return "good";
                case 5: return "seen";
                case 6: return "counts";
                case 7: return "joys";
                case 8: return "goes";
                case 9: return "or";
                case 10: return "and";
                default: return "not";
            }
        }
    }

    /** A row of numbers of a sort, or missing. Its room is made once and used again. */
    private static final class Sheet {
        int sort = MISSING;
        int size;
        final int[] items = new int[MOST_ITEMS];

        boolean isMissing() {
            return sort == MISSING;
        }

        void become(int itsSort, int itsSize) {
            sort = itsSort;
            size = itsSize;
            Arrays.fill(items, 0);
        }

        boolean has(int i) {
            return i >= 0 && i < size;
        }

        boolean hasRun(int i, int n) {
            return i >= 0 && n >= 0 && i <= size && n <= size - i;
        }

        boolean hasStepsAlone() {
            for (int i = 0; i < size; i++) {
                if (!isStep(items[i])) {
                    return false;
                }
            }
            return true;
        }

        void lay(int i, int v) {
            items[i] = sort == BYTES ? (byte) v : sort == SHORTS ? (short) v : v;
        }
    }
}
