/** Countries in which much has happened, so that what a call changes, or leaves as it was, can be seen. */
final class Countries {
    private static final String RULE = "counts 12 + joy * (day < 38); joys good - seen; goes number;";

    private Countries() {
    }

    /** Four PEOPLE, three TEXTS, a fourth on THE TAPE; 5 bytes and 20 shorts that are STEPS, 20 ints that are SUMS. */
    static CountsIfCounted busy() {
        CountsIfCounted x = new CountsIfCounted();
        Due.textOf(x, "counts 5; joys 0; goes 1;");
        x.person(0, 3, 20, 0);
        x.person(1, 0, 0, 1);
        x.image();
        Due.textOf(x, RULE);
        x.force(2);
        x.person(4, 5, 60, 2);
        x.person(5, 2, 98, 7);
        x.set(0, 0, 37);
        x.set(2, 0, 0b10010);
        x.day(0);
        x.day(1);
        steps(x, 0, 0, 5);
        steps(x, 1, 1, 20);
        x.film(2, 1, 20);
        for (char letter : "counts joy; joys 1; goes -seen;".toCharArray()) {
            x.feed(letter);
        }
        return x;
    }

    /** All that can be full is full: PEOPLE, TEXTS, THE TAPE, DAY; 40 bytes, 40 shorts, 40 ints, and 21 ints. */
    static CountsIfCounted filled() {
        CountsIfCounted x = new CountsIfCounted();
        for (int i = 0; i < 5; i++) {
            Due.textOf(x, "counts " + i + ";joys 0;goes 1;");
            x.person(i, i, 10 * i, 7 - i);
        }
        x.force(3);
        x.set(2, 0, 255);
        x.day(1);
        x.image();
        x.set(0, 0, 999);
        for (int sheet = 0; sheet < 4; sheet++) {
            x.sheet(sheet, Math.min(sheet, 2), sheet == 3 ? 21 : 40);
            x.cell(sheet, sheet, sheet + 1);
        }
        for (int i = 0; i < 160; i++) {
            x.feed('c');
        }
        return x;
    }

    /** A SHEET of STEPS. */
    static void steps(CountsIfCounted x, int sheet, int sort, int n) {
        x.sheet(sheet, sort, n);
        for (int i = 0; i < n; i++) {
            x.cell(sheet, i, i % 3 == 0 ? -1 : i % 2);
        }
    }
}
