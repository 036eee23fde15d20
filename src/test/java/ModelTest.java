import java.util.Arrays;
import java.util.Random;

/** All promises, by runs of 512 calls that are drawn: what the model answers is due, and no call throws. */
final class ModelTest {
    private static final int RUNS = 400, CALLS = 512;
    private static final String[] NAMES = {"set", "person", "told", "feed", "text", "force", "day", "walks", "run", "when",
        "row", "begin", "holds", "self", "tells", "film", "drawn", "chance", "image", "back", "count", "sheet", "cell",
        "copy", "census", "taken"};
    private static final int[] SIZES = {3, 4, 2, 1, 0, 1, 1, 2, 3, 2, 2, 3, 1, 1, 4, 3, 2, 4, 0, 0, 1, 3, 3, 5, 4, 2};
    /** How often each is called: those that change the country more often than those that try much. */
    private static final int[] WEIGHTS = {30, 12, 40, 2, 4, 12, 60, 14, 14, 6, 1, 2, 14, 8, 14, 14, 6, 1, 3, 3, 12, 10, 40,
        14, 8, 10};

    private final Random random;
    private final CountsIfCounted x = new CountsIfCounted();
    private final Model model = new Model();
    private final int run;
    private final int[] answered;

    private ModelTest(int run, int[] answered) {
        this.run = run;
        this.answered = answered;
        random = new Random(run);
    }

    public static void main(String[] args) {
        int[] answered = new int[NAMES.length];
        for (int run = 0; run < RUNS; run++) {
            new ModelTest(run, answered).go();
        }
        for (int i = 0; i < NAMES.length; i++) {
            Due.that(NAMES[i] + " is called, and not only in vain", answered[i] > 100);
        }
        Due.end();
    }

    private void go() {
        for (int i = 0; i < CALLS; i++) {
            if (random.nextInt(40) == 0) {
                i += feedText(CALLS - i);
            }
            int which = drawCall();
            int[] a = new int[5];
            for (int k = 0; k < SIZES[which]; k++) {
                a[k] = argument(which, k);
            }
            ask(which, a);
        }
    }

    private void ask(int which, int... a) {
        long due = model.call(which, a);
        long got;
        try {
            got = call(which, a);
        } catch (RuntimeException | StackOverflowError thrown) {
            thrown.printStackTrace(System.out);
            got = Long.MIN_VALUE;
        }
        Due.is("run " + run + ": " + NAMES[which] + Arrays.toString(Arrays.copyOf(a, SIZES[which])), got, due);
        answered[which] += got >= 0 ? 1 : 0;
    }

    private int drawCall() {
        int at = random.nextInt(Arrays.stream(WEIGHTS).sum());
        int which = 0;
        while (at >= WEIGHTS[which]) {
            at -= WEIGHTS[which++];
        }
        return which;
    }

    private int argument(int which, int k) {
        if (random.nextInt(60) == 0) {
            int[] far = {Integer.MIN_VALUE, Integer.MAX_VALUE, -1, 256, 1000, Integer.MIN_VALUE + 1, Integer.MAX_VALUE - 3};
            return far[random.nextInt(far.length)];
        }
        String name = NAMES[which];
        switch (name + k) {
            case "set2": return random.nextInt(random.nextInt(3) == 0 ? 1001 : 12);
            case "person2": return random.nextInt(101);
            case "told1": return random.nextInt(14);
            case "feed0": return random.nextInt(256);
            case "run0": return random.nextInt(42);
            case "run2": return random.nextInt(3) == 0 ? random.nextInt(3) : random.nextInt(4) < 2 ? 10 + random.nextInt(6) : 20 + random.nextInt(6);
            case "begin0": return random.nextInt(22);
            case "row0": return random.nextInt(20) == 0 ? 6 : random.nextInt(5);
            case "drawn0":
            case "chance0": return random.nextInt();
            case "drawn1": return random.nextInt(42);
            case "chance1": return random.nextInt(22);
            case "film2": return random.nextInt(22);
            case "sheet1": return random.nextInt(9) == 0 ? -1 : random.nextInt(3);
            case "sheet2": return random.nextInt(random.nextInt(3) == 0 ? 42 : 8) - (random.nextInt(20) == 0 ? 3 : 0);
            case "cell1": return random.nextInt(10);
            case "cell2": return random.nextInt(4) == 0 ? random.nextInt() : random.nextInt(4) - 1;
            case "copy1":
            case "copy3":
            case "copy4":
            case "census2": return random.nextInt(8);
            default: break;
        }
        boolean isStep = name.equals("day") || (name + k).matches("run1|when1|begin1|tells2|film1");
        if (isStep) {
            return random.nextInt(12) == 0 ? 2 * random.nextInt(2) * 2 - 2 : random.nextInt(3) - 1;
        }
        boolean isSheet = k == 0 && name.matches("walks|tells|film|sheet|cell|copy|census") || (name + k).equals("copy2");
        if (isSheet) {
            return random.nextInt(16) == 0 ? 4 : random.nextInt(4);
        }
        return random.nextInt(random.nextInt(4) == 0 ? 9 : 3);
    }

    private int feedText(int room) {
        String bytes = Texts.drawn(random);
        if (bytes.length() >= room - 1) {
            return 0;
        }
        for (int i = 0; i < bytes.length(); i++) {
            ask(3, bytes.charAt(i));
        }
        ask(4);
        ask(5, random.nextInt(7));
        return bytes.length() + 2;
    }

    private long call(int which, int[] a) {
        switch (which) {
            case 0: return x.set(a[0], a[1], a[2]);
            case 1: return x.person(a[0], a[1], a[2], a[3]);
            case 2: return x.told(a[0], a[1]);
            case 3: return x.feed(a[0]);
            case 4: return x.text();
            case 5: return x.force(a[0]);
            case 6: return x.day(a[0]);
            case 7: return x.walks(a[0], a[1]);
            case 8: return x.run(a[0], a[1], a[2]);
            case 9: return x.when(a[0], a[1]);
            case 10: return x.row(a[0], a[1]);
            case 11: return x.begin(a[0], a[1], a[2]);
            case 12: return x.holds(a[0]);
            case 13: return x.self(a[0]);
            case 14: return x.tells(a[0], a[1], a[2], a[3]);
            case 15: return x.film(a[0], a[1], a[2]);
            case 16: return x.drawn(a[0], a[1]);
            case 17: return x.chance(a[0], a[1], a[2], a[3]);
            case 18: return x.image();
            case 19: return x.back();
            case 20: return x.count(a[0]);
            case 21: return x.sheet(a[0], a[1], a[2]);
            case 22: return x.cell(a[0], a[1], a[2]);
            case 23: return x.copy(a[0], a[1], a[2], a[3], a[4]);
            case 24: return x.census(a[0], a[1], a[2], a[3]);
            default: return x.taken(a[0], a[1]);
        }
    }
}
