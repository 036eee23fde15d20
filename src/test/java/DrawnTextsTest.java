import java.util.Random;

/** Promises 5 to 7: of many TEXTS that are drawn the FAULTS and the values, as the model tells them. */
final class DrawnTextsTest {
    private static final int ALL = 60000;

    public static void main(String[] args) {
        Random random = new Random(7);
        int read = 0;
        for (int i = 0; i < ALL; i++) {
            CountsIfCounted x = new CountsIfCounted();
            Model model = new Model();
            String bytes = Texts.drawn(random);
            if (random.nextInt(8) == 0) {
                bytes = bytes.replace("(", "((").replace(")", "))");
            }
            for (int at = 0; at < bytes.length(); at++) {
                x.feed(bytes.charAt(at));
                model.call(3, new int[] {bytes.charAt(at)});
            }
            int text = x.text();
            Due.is("6: " + bytes, text, model.call(4, new int[0]));
            if (text == 1) {
                read++;
                values(x, model, random, bytes);
            }
        }
        Due.that("6: many are read", read > ALL / 3);
        Due.that("6: many are not", ALL - read > ALL / 6);
        Due.end();
    }

    private static void values(CountsIfCounted x, Model model, Random random, String bytes) {
        int[] one = {0, random.nextInt(10), random.nextInt(100), random.nextInt(8)};
        int[] day = {0, 0, random.nextInt(1000)};
        x.force(1);
        x.person(one[0], one[1], one[2], one[3]);
        x.set(day[0], day[1], day[2]);
        model.call(5, new int[] {1});
        model.call(1, one);
        model.call(0, day);
        for (int what = 8; what <= 9; what++) {
            Due.is("4: of " + bytes, x.told(0, what), model.call(2, new int[] {0, what}));
        }
    }
}
