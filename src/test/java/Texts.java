import java.util.Random;

/** TEXTS that are drawn: most by the grammar, many of them spoilt at one place. */
final class Texts {
    private static final String[] NAMES = {"joy", "house", "number", "day", "good", "seen"};
    private static final String[] SPOILS = {"(", ")", ";", "+", "-", "*", "<", "=", "not ", " and ", " or ", "joy", "12345",
        "7", "x", "@", "\n", " ", "counts", "", "" + (char) 233, "((", "not not ", "--"};

    private final Random random;

    private Texts(Random random) {
        this.random = random;
    }

    static String drawn(Random random) {
        Texts t = new Texts(random);
        String text = "";
        do {
            int deep = random.nextInt(4);
            text = "counts " + t.usual(12, deep) + ";joys " + t.usual(3, deep) + ";goes " + t.usual(1, deep) + ";";
        } while (text.length() > 150);
        if (random.nextInt(3) == 0) {
            int at = random.nextInt(text.length() + 1);
            int gone = Math.min(random.nextInt(3), text.length() - at);
            text = text.substring(0, at) + SPOILS[random.nextInt(SPOILS.length)] + text.substring(at + gone);
        }
        return text;
    }

    /** Often near a number, so that HOUSES become GOOD now and then. */
    private String usual(int near, int deep) {
        switch (random.nextInt(4)) {
            case 0: return "" + near;
            case 1: return near + "+" + e(deep);
            default: return e(deep);
        }
    }

    private String e(int deep) {
        switch (random.nextInt(5)) {
            case 0: return and(deep) + " or " + and(deep);
            default: return and(deep);
        }
    }

    private String and(int deep) {
        return random.nextInt(5) == 0 ? not(deep) + " and " + not(deep) : not(deep);
    }

    private String not(int deep) {
        switch (random.nextInt(6)) {
            case 0: return "not " + (deep > 0 ? not(deep - 1) : sum(0));
            case 1: return sum(deep) + "<" + sum(deep);
            case 2: return sum(deep) + "=" + sum(deep);
            default: return sum(deep);
        }
    }

    private String sum(int deep) {
        switch (random.nextInt(5)) {
            case 0: return term(deep) + "+" + term(deep);
            case 1: return term(deep) + " - " + term(deep);
            default: return term(deep);
        }
    }

    private String term(int deep) {
        return random.nextInt(4) == 0 ? one(deep) + "*" + one(deep) : one(deep);
    }

    private String one(int deep) {
        if (deep > 0 && random.nextInt(2) == 0) {
            return random.nextInt(3) == 0 ? "-" + one(deep - 1) : "(" + e(deep - 1) + ")";
        }
        return random.nextInt(2) == 0 ? NAMES[random.nextInt(NAMES.length)] : "" + random.nextInt(random.nextInt(4) == 0 ? 10000 : 14);
    }
}
