import java.util.ArrayDeque;
import java.util.ArrayList;
import java.util.Arrays;
import java.util.Deque;
import java.util.List;
import java.util.function.IntPredicate;

/**
 * The document told a second time, by other means than the program's: KINDS that stand under one another as classes,
 * TEXTS read by marks on a stack and reckoned from their TOKENS each time, countries that are copied and thrown away.
 */
final class Model {
    static final long NO = -4611686018427387904L;

    // ---- TEXTS

    record Token(String kind, String word, int place) {
        boolean is(String sign) {
            return kind.equals("sign") && word.equals(sign);
        }
    }

    static final class Fault extends Exception {
        private static final long serialVersionUID = 1;
        final int place;

        Fault(int place) {
            this.place = place;
        }
    }

    record Text(int number, List<List<Token>> parts) {
        int value(int part, java.util.Map<String, Integer> names) {
            return Reckoning.of(parts.get(part), names);
        }
    }

    /** All TOKENS; the first byte that begins none, or a TOKEN that is none such, is one of kind "none". */
    static List<Token> tokens(String tape) {
        List<Token> all = new ArrayList<>();
        int at = 0;
        while (at < tape.length()) {
            char c = tape.charAt(at);
            int end = at + 1;
            if (c == ' ' || c == '\n') {
                at++;
                continue;
            }
            String kind = "();+-*<=".indexOf(c) >= 0 ? "sign" : "none";
            if (c >= 'a' && c <= 'z') {
                while (end < tape.length() && tape.charAt(end) >= 'a' && tape.charAt(end) <= 'z') {
                    end++;
                }
                String word = tape.substring(at, end);
                kind = List.of("joy", "house", "number", "day", "good", "seen").contains(word) ? "name"
                        : List.of("counts", "joys", "goes", "or", "and", "not").contains(word) ? "sign" : "none";
            } else if (c >= '0' && c <= '9') {
                while (end < tape.length() && tape.charAt(end) >= '0' && tape.charAt(end) <= '9') {
                    end++;
                }
                kind = end - at > 4 ? "none" : "number";
            }
            all.add(new Token(kind, tape.substring(at, end), at));
            at = end;
        }
        all.add(new Token("end", "", tape.length()));
        return all;
    }

    static List<List<Token>> read(String tape) throws Fault {
        List<Token> all = tokens(tape);
        List<List<Token>> parts = new ArrayList<>();
        int at = 0;
        for (String key : List.of("counts", "joys", "goes")) {
            if (!all.get(at).is(key)) {
                throw new Fault(all.get(at).place);
            }
            int end = endOfE(all, at + 1);
            parts.add(all.subList(at + 1, end));
            at = end + 1;
        }
        if (!all.get(at).kind.equals("end")) {
            throw new Fault(all.get(at).place);
        }
        return parts;
    }

    /** Where the ; stands that ends the E. What is open stands on a stack of marks, with a comparison's below each. */
    private static int endOfE(List<Token> all, int from) throws Fault {
        Deque<String> open = new ArrayDeque<>();
        Deque<Boolean> outerCompared = new ArrayDeque<>();
        boolean compared = false;
        boolean wantsOne = true;
        boolean notMayStand = true;
        for (int at = from; at < all.size(); at++) {
            Token t = all.get(at);
            boolean opens = wantsOne && (t.is("(") || t.is("-") || t.is("not") && notMayStand);
            if (opens && open.size() < 5) {
                open.push(t.word);
                notMayStand = !t.is("-");
                if (t.is("(")) {
                    outerCompared.push(compared);
                    compared = false;
                }
            } else if (wantsOne && (t.kind.equals("number") || t.kind.equals("name"))) {
                wantsOne = false;
                close(open, "-");
            } else if (!wantsOne && (t.is("+") || t.is("-") || t.is("*"))) {
                wantsOne = true;
                notMayStand = false;
            } else if (!wantsOne && !compared && (t.is("<") || t.is("="))) {
                wantsOne = true;
                notMayStand = false;
                compared = true;
            } else if (!wantsOne && (t.is("and") || t.is("or"))) {
                close(open, "not");
                wantsOne = true;
                notMayStand = true;
                compared = false;
            } else if (!wantsOne && t.is(")") && open.contains("(")) {
                close(open, "not");
                open.pop();
                compared = outerCompared.pop();
                close(open, "-");
            } else if (!wantsOne && t.is(";") && !open.contains("(")) {
                return at;
            } else {
                throw new Fault(t.place);
            }
        }
        throw new IllegalStateException("the end is a TOKEN, too");
    }

    private static void close(Deque<String> open, String mark) {
        while (!open.isEmpty() && open.peek().equals(mark)) {
            open.pop();
        }
    }

    /** By two stacks, of signs that wait and of numbers. */
    static final class Reckoning {
        private final Deque<String> signs = new ArrayDeque<>();
        private final Deque<Integer> numbers = new ArrayDeque<>();

        static int of(List<Token> e, java.util.Map<String, Integer> names) {
            Reckoning r = new Reckoning();
            boolean wantsOne = true;
            for (Token t : e) {
                if (t.kind.equals("number")) {
                    r.numbers.push(Integer.parseInt(t.word));
                    wantsOne = false;
                } else if (t.kind.equals("name")) {
                    r.numbers.push(names.get(t.word));
                    wantsOne = false;
                } else if (wantsOne) {
                    r.signs.push(t.is("-") ? "neg" : t.word);
                } else if (t.is(")")) {
                    while (!r.signs.peek().equals("(")) {
                        r.reckon();
                    }
                    r.signs.pop();
                } else {
                    while (!r.signs.isEmpty() && rank(r.signs.peek()) >= rank(t.word)) {
                        r.reckon();
                    }
                    r.signs.push(t.word);
                    wantsOne = true;
                }
            }
            while (!r.signs.isEmpty()) {
                r.reckon();
            }
            return r.numbers.pop();
        }

        private static int rank(String sign) {
            return switch (sign) {
                case "(" -> 0;
                case "or" -> 1;
                case "and" -> 2;
                case "not" -> 3;
                case "<", "=" -> 4;
                case "+", "-" -> 5;
                case "*" -> 6;
                default -> 7;
            };
        }

        private void reckon() {
            String sign = signs.pop();
            int b = numbers.pop();
            if (sign.equals("neg") || sign.equals("not")) {
                numbers.push(sign.equals("neg") ? 0 - b : truth(b == 0));
                return;
            }
            int a = numbers.pop();
            numbers.push(switch (sign) {
                case "or" -> truth(a != 0 | b != 0);
                case "and" -> truth(a != 0 & b != 0);
                case "<" -> truth(a < b);
                case "=" -> truth(a == b);
                case "+" -> a + b;
                case "-" -> a - b;
                default -> a * b;
            });
        }

        private static int truth(boolean holds) {
            return holds ? 1 : 0;
        }
    }

    // ---- KINDS

    static class Counter {
        int number;
        int joy;
        int house;
        int seen;
        int made;

        int byRule(World w, int part) {
            int v = w.rule.value(part, java.util.Map.of("joy", joy, "house", house, "number", number,
                    "day", w.day, "good", Integer.bitCount(w.good), "seen", seen));
            return clamp(v, part == 0 ? 0 : -99, 99);
        }

        final int makes(World w) {
            return clamp(twelfths(w), 0, 99);
        }

        int twelfths(World w) {
            return byRule(w, 0);
        }

        int gladdens(World w) {
            return byRule(w, 1);
        }

        int goes(World w) {
            return byRule(w, 2);
        }
    }

    static class Twin extends Counter {
        @Override int twelfths(World w) {
            return super.twelfths(w) / (int) w.people.stream().filter(p -> p instanceof Twin && p.house == house).count();
        }

        @Override int gladdens(World w) {
            return made == 12 ? super.gladdens(w) : 0;
        }

        @Override int goes(World w) {
            return 0;
        }
    }

    static class Enemy extends Counter {
        @Override int twelfths(World w) {
            return Math.max(super.twelfths(w) - number, 0);
        }

        @Override int gladdens(World w) {
            return 0 - super.gladdens(w);
        }

        @Override int goes(World w) {
            return 0 - super.goes(w);
        }
    }

    static final class Child extends Twin {
        @Override int twelfths(World w) {
            return 2 * super.twelfths(w);
        }

        @Override int gladdens(World w) {
            return super.gladdens(w) + number;
        }

        @Override int goes(World w) {
            return super.goes(w) + (joy > 50 ? 1 : 0);
        }
    }

    static final class Widow extends Enemy {
        @Override int twelfths(World w) {
            boolean alone = w.people.stream().noneMatch(p -> p != this && p.house == house);
            return super.twelfths(w) + (alone ? 6 : 0);
        }

        @Override int gladdens(World w) {
            return w.day % 2 != 0 ? super.gladdens(w) : 0;
        }

        @Override int goes(World w) {
            return super.goes(w) / 2;
        }
    }

    static final class Blind extends Counter {
        @Override int twelfths(World w) {
            return seen >= number ? 12 : 0;
        }

        @Override int gladdens(World w) {
            return 1;
        }

        @Override int goes(World w) {
            return w.day % 5 == 0 ? 4 : 0;
        }
    }

    private static final List<Class<? extends Counter>> KINDS =
            List.of(Counter.class, Twin.class, Enemy.class, Child.class, Widow.class, Blind.class);

    static Counter one(int kind, int number, int joy, int house, int seen) {
        Counter c = switch (kind) {
            case 0 -> new Counter();
            case 1 -> new Twin();
            case 2 -> new Enemy();
            case 3 -> new Child();
            case 4 -> new Widow();
            default -> new Blind();
        };
        c.number = number;
        c.joy = joy;
        c.house = house;
        c.seen = seen;
        return c;
    }

    static int clamp(int v, int lowest, int highest) {
        return v < lowest ? lowest : v > highest ? highest : v;
    }

    // ---- the country

    static final class World {
        int good;
        int day;
        int clerk;
        int sum;
        int times;
        Text rule;
        List<Counter> people = new ArrayList<>();

        World copy() {
            World w = new World();
            w.good = good;
            w.day = day;
            w.clerk = clerk;
            w.sum = sum;
            w.times = times;
            w.rule = rule;
            for (Counter p : people) {
                w.people.add(one(KINDS.indexOf(p.getClass()), p.number, p.joy, p.house, p.seen));
            }
            return w;
        }

        World behind(int n, int step) {
            World w = copy();
            for (int i = 0; i < n; i++) {
                w.pass(step);
            }
            return w;
        }

        World behind(int... steps) {
            World w = copy();
            for (int step : steps) {
                w.pass(step);
            }
            return w;
        }

        void pass(int step) {
            clerk = (clerk + step + 8) % 8;
            List<Counter> there = people.stream().filter(p -> p.house == clerk).toList();
            for (Counter p : there) {
                p.made = p.makes(this);
            }
            sum = clamp(sum + there.stream().mapToInt(p -> p.made).sum(), 0, 99999);
            times = clamp(times + there.size(), 0, 9999);
            if (!there.isEmpty()) {
                good &= ~(1 << clerk);
                good |= there.stream().allMatch(p -> p.made == 12) ? 1 << clerk : 0;
            }
            for (Counter p : there) {
                p.seen = clamp(p.seen + 1, 0, 99);
                p.joy = clamp(p.joy + p.gladdens(this), 0, 99);
            }
            for (Counter p : people) {
                p.house = (p.house + p.goes(this) + 800) % 8;
            }
            day++;
        }

        int at(int house) {
            int bits = 0;
            for (int i = 0; i < people.size(); i++) {
                bits += people.get(i).house == house ? 1 << i : 0;
            }
            return bits;
        }

        int goods() {
            return Integer.bitCount(good);
        }
    }

    private final List<Text> texts = new ArrayList<>();
    private final StringBuilder tape = new StringBuilder();
    private final Object[] sheets = new Object[4];
    private World now = new World();
    private World kept;

    Model() {
        try {
            texts.add(new Text(0, read("counts 12 ; joys 1 ; goes 0 ;")));
        } catch (Fault fault) {
            throw new IllegalStateException(fault);
        }
        now.rule = texts.get(0);
    }

    /** Call number which, in the order of the face. */
    long call(int which, int[] a) {
        return switch (which) {
            case 0 -> set(a[0], a[1], a[2]);
            case 1 -> person(a[0], a[1], a[2], a[3]);
            case 2 -> told(a[0], a[1]);
            case 3 -> feed(a[0]);
            case 4 -> text();
            case 5 -> force(a[0]);
            case 6 -> day(a[0]);
            case 7 -> walks(a[0], a[1]);
            case 8 -> run(a[0], a[1], a[2]);
            case 9 -> when(a[0], a[1]);
            case 10 -> row(a[0], a[1]);
            case 11 -> begin(a[0], a[1], a[2]);
            case 12 -> holds(a[0]);
            case 13 -> in(a[0], 0, 1) && now.times > 0 ? lowest(now.sum, 12L * now.times, a[0]) : NO;
            case 14 -> tells(a[0], a[1], a[2], a[3]);
            case 15 -> film(a[0], a[1], a[2]);
            case 16 -> in(a[1], 0, 40) ? draw(a[0], a[1]) : -2;
            case 17 -> chance(a[0], a[1], a[2], a[3]);
            case 18 -> image();
            case 19 -> back();
            case 20 -> count(a[0]);
            case 21 -> sheet(a[0], a[1], a[2]);
            case 22 -> cell(a[0], a[1], a[2]);
            case 23 -> copy(a[0], a[1], a[2], a[3], a[4]);
            case 24 -> census(a[0], a[1], a[2], a[3]);
            default -> taken(a[0], a[1]);
        };
    }

    private static boolean in(int v, int lowest, int highest) {
        return lowest <= v && v <= highest;
    }

    private boolean isOne(int one) {
        return in(one, 0, now.people.size() - 1);
    }

    private int set(int what, int of, int v) {
        int was = now.people.size() > 0 || what < 3 ? told(of, what) : -1000;
        int[] most = {999, 7, 255, 9, 99, 7, 99};
        if (!in(what, 0, 6) || !in(v, 0, most[what]) || was == -1000) {
            return -2;
        }
        switch (what) {
            case 0 -> now.day = v;
            case 1 -> now.clerk = v;
            case 2 -> now.good = v;
            case 3 -> now.people.get(of).number = v;
            case 4 -> now.people.get(of).joy = v;
            case 5 -> now.people.get(of).house = v;
            default -> now.people.get(of).seen = v;
        }
        return was;
    }

    private int person(int kind, int number, int joy, int house) {
        if (!in(kind, 0, 5) || !in(number, 0, 9) || !in(joy, 0, 99) || !in(house, 0, 7)) {
            return -2;
        }
        if (now.people.size() == 5) {
            return -4;
        }
        now.people.add(one(kind, number, joy, house, 0));
        return now.people.size() - 1;
    }

    private int told(int of, int what) {
        switch (what) {
            case 0: return now.day;
            case 1: return now.clerk;
            case 2: return now.good;
            case 10: return in(of, 0, 7) ? now.at(of) : -1000;
            case 11: return now.sum;
            case 12: return now.times;
            default: break;
        }
        if (!in(what, 3, 9) || !isOne(of)) {
            return -1000;
        }
        Counter p = now.people.get(of);
        return switch (what) {
            case 3 -> p.number;
            case 4 -> p.joy;
            case 5 -> p.house;
            case 6 -> p.seen;
            case 7 -> KINDS.indexOf(p.getClass());
            case 8 -> p.makes(now);
            default -> p.goes(now) + 1000;
        };
    }

    private int feed(int letter) {
        if (!in(letter, 0, 255)) {
            return -2;
        }
        if (tape.length() == 160) {
            return -4;
        }
        tape.append((char) letter);
        return tape.length();
    }

    private int text() {
        if (texts.size() == 6) {
            return -4;
        }
        String bytes = tape.toString();
        tape.setLength(0);
        try {
            texts.add(new Text(texts.size(), read(bytes)));
            return texts.size() - 1;
        } catch (Fault fault) {
            return -100 - fault.place;
        }
    }

    private int force(int text) {
        if (!in(text, 0, texts.size() - 1)) {
            return -2;
        }
        int was = now.rule.number;
        now.rule = texts.get(text);
        return was;
    }

    private int day(int step) {
        if (!in(step, -1, 1)) {
            return -2;
        }
        if (now.day == 999) {
            return -3;
        }
        now = now.behind(1, step);
        return now.good;
    }

    private int walks(int sheet, int what) {
        if (!in(sheet, 0, 3) || !in(what, 0, 3)) {
            return -2;
        }
        if (sheets[sheet] == null) {
            return -11;
        }
        int[] steps = items(sheet);
        if (steps.length > 20 || Arrays.stream(steps).anyMatch(s -> !in(s, -1, 1))) {
            return -2;
        }
        World w = now.behind(steps);
        return new int[] {w.good, w.sum, w.times, w.clerk}[what];
    }

    private int run(int n, int step, int what) {
        boolean isAt = in(what, 10, 14) && isOne(what - 10);
        boolean isJoy = in(what, 20, 24) && isOne(what - 20);
        if (!in(n, 0, 40) || !in(step, -1, 1) || !(in(what, 0, 1) || isAt || isJoy)) {
            return -2;
        }
        World w = now.behind(n, step);
        return isAt ? w.people.get(what - 10).house : isJoy ? w.people.get(what - 20).joy : what == 0 ? w.good : w.sum;
    }

    private int when(int house, int step) {
        if (!in(house, 0, 7) || !in(step, -1, 1)) {
            return -2;
        }
        World w = now.copy();
        int n = 0;
        while (n <= 60 && (w.good & 1 << house) == 0) {
            w.pass(step);
            n++;
        }
        return n <= 60 ? n : -1;
    }

    private int row(int n, int what) {
        if (!in(n, 0, 6) || !in(what, 0, 1)) {
            return -2;
        }
        int rows = (int) Math.round(Math.pow(3, n));
        int most = -1;
        String best = "";
        for (int i = 0; i < rows; i++) {
            String digits = n == 0 ? "" : Integer.toString(rows + i, 3).substring(1);
            int goods = now.behind(digits.chars().map(c -> c - '0' - 1).toArray()).goods();
            if (goods > most) {
                most = goods;
                best = digits;
            }
        }
        int told = 0;
        for (char c : best.toCharArray()) {
            told = 10 * told + c - '0' + 1;
        }
        return what == 0 ? told : most;
    }

    private int begin(int n, int step, int what) {
        if (!in(n, 0, 20) || !in(step, -1, 1) || !in(what, 0, 1)) {
            return -2;
        }
        int best = 7;
        int most = -1;
        for (int house = 7; house >= 0; house--) {
            World w = now.copy();
            w.clerk = house;
            int goods = w.behind(n, step).goods();
            if (goods >= most) {
                most = goods;
                best = house;
            }
        }
        return what == 0 ? best : most;
    }

    private int holds(int what) {
        if (!in(what, 0, 1)) {
            return -2;
        }
        int out = 0;
        int bring = -1;
        for (int i = now.people.size() - 1; i >= 0; i--) {
            if (now.people.get(i).house == now.clerk && now.people.get(i).makes(now) != 12) {
                out |= 1 << i;
            }
            World w = now.copy();
            w.people.get(i).house = w.clerk;
            w.pass(0);
            if ((w.good & 1 << w.clerk) != 0) {
                bring = i;
            }
        }
        return what == 0 ? out : bring;
    }

    private int tells(int sheet, int one, int step, int what) {
        if (!in(sheet, 0, 3) || !isOne(one) || !in(step, -1, 1) || !in(what, 0, 7)) {
            return -2;
        }
        if (sheets[sheet] == null) {
            return -11;
        }
        int[] sums = items(sheet);
        if (sums.length > 20) {
            return -2;
        }
        List<Integer> fit = new ArrayList<>();
        for (int v = 0; v < new int[] {1, 6, 10, 100, 100, 8, 8, texts.size()}[what]; v++) {
            World w = now.copy();
            Counter p = w.people.get(one);
            int kind = what == 1 ? v : KINDS.indexOf(p.getClass());
            w.people.set(one, one(kind, what == 2 ? v : p.number, what == 3 || what == 4 ? v : p.joy,
                    what == 5 ? v : p.house, p.seen));
            w.clerk = what == 6 ? v : w.clerk;
            w.rule = what == 7 ? texts.get(v) : w.rule;
            int other = -1;
            for (int i = sums.length - 1; i >= 0; i--) {
                other = w.behind(i + 1, step).sum == sums[i] ? other : i;
            }
            if (what == 0) {
                return other;
            }
            if (other == -1) {
                fit.add(v);
            }
        }
        return what == 3 ? fit.size() : what == 4 ? (fit.isEmpty() ? -1 : fit.get(0)) : fit.stream().mapToInt(v -> 1 << v).sum();
    }

    private int film(int sheet, int step, int n) {
        if (!in(sheet, 0, 3) || !in(step, -1, 1) || !in(n, 0, 20)) {
            return -2;
        }
        int[] sums = new int[n];
        for (int i = 0; i < n; i++) {
            sums[i] = now.behind(i + 1, step).sum;
        }
        sheets[sheet] = sums;
        return n;
    }

    private int draw(int seed, int n) {
        World w = now.copy();
        int z = seed;
        for (int i = 0; i < n; i++) {
            z = z * 1103515245 + 12345;
            w.pass((z >>> 9) % 3 - 1);
        }
        return w.goods();
    }

    private long chance(int seed, int m, int k, int part) {
        if (!in(m, 1, 20) || !in(k, 0, 8) || !in(part, 0, 1)) {
            return NO;
        }
        IntPredicate enough = i -> draw(seed + i, 10) >= k;
        return lowest(java.util.stream.IntStream.range(0, m).filter(enough).count(), m, part);
    }

    private static long lowest(long above, long below, int part) {
        long by = java.math.BigInteger.valueOf(above).gcd(java.math.BigInteger.valueOf(below)).longValue();
        return (part == 0 ? above : below) / by;
    }

    private int image() {
        kept = now.copy();
        return now.people.size();
    }

    private int back() {
        if (kept == null) {
            return -3;
        }
        now = kept.copy();
        return now.people.size();
    }

    private int count(int what) {
        return switch (what) {
            case 0 -> now.people.size();
            case 1 -> now.goods();
            case 2 -> now.day;
            case 3 -> texts.size();
            case 4 -> tape.length();
            case 5 -> now.rule.number;
            default -> -2;
        };
    }

    // ---- the host: rows that are truly of bytes, shorts, ints

    private int size(int sheet) {
        return java.lang.reflect.Array.getLength(sheets[sheet]);
    }

    private int[] items(int sheet) {
        int[] all = new int[size(sheet)];
        for (int i = 0; i < all.length; i++) {
            all[i] = java.lang.reflect.Array.getInt(sheets[sheet], i);
        }
        return all;
    }

    private int sheet(int sheet, int sort, int n) {
        if (!in(sheet, 0, 3) || !in(sort, -1, 2) || sort >= 0 && n > 40) {
            return -2;
        }
        if (sort >= 0 && n < 0) {
            return -14;
        }
        sheets[sheet] = switch (sort) {
            case 0 -> new byte[n];
            case 1 -> new short[n];
            case 2 -> new int[n];
            default -> null;
        };
        return 1;
    }

    private int cell(int sheet, int i, int v) {
        if (!in(sheet, 0, 3)) {
            return -2;
        }
        if (sheets[sheet] == null) {
            return -11;
        }
        if (!in(i, 0, size(sheet) - 1)) {
            return -12;
        }
        if (sheets[sheet] instanceof byte[] bytes) {
            bytes[i] = (byte) v;
        } else if (sheets[sheet] instanceof short[] shorts) {
            shorts[i] = (short) v;
        } else {
            ((int[]) sheets[sheet])[i] = v;
        }
        return 1;
    }

    private int copy(int sheet, int i, int other, int j, int n) {
        if (!in(sheet, 0, 3) || !in(other, 0, 3)) {
            return -2;
        }
        if (sheets[sheet] == null || sheets[other] == null) {
            return -11;
        }
        if (sheets[sheet].getClass() != sheets[other].getClass()) {
            return -13;
        }
        if (i < 0 || j < 0 || n < 0 || (long) i + n > size(sheet) || (long) j + n > size(other)) {
            return -12;
        }
        int[] were = items(sheet);
        for (int k = 0; k < n; k++) {
            cell(other, j + k, were[i + k]);
        }
        return n;
    }

    private int census(int sheet, int sort, int from, int n) {
        if (!in(sheet, 0, 3) || !in(sort, 0, 2) || !in(n, 0, 5)) {
            return -2;
        }
        if (sheets[sheet] == null) {
            return -11;
        }
        if (!List.of(byte[].class, short[].class, int[].class).get(sort).isInstance(sheets[sheet])) {
            return -13;
        }
        int[] items = items(sheet);
        int came = 0;
        for (int k = 0; k < n; k++) {
            long at = from + 4L * k;
            if (at < 0 || at + 3 >= items.length) {
                return -12;
            }
            int i = (int) at;
            came += person(items[i], items[i + 1], items[i + 2], items[i + 3]) >= 0 ? 1 : 0;
        }
        return came;
    }

    private int taken(int one, int k) {
        if (!in(k, 0, 5)) {
            return -2;
        }
        if (!isOne(one)) {
            return -11;
        }
        return KINDS.get(k).isInstance(now.people.get(one)) ? now.people.get(one).number : -13;
    }
}
