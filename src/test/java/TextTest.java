/** Promises 5 to 7: feed, text, force; and the TEXTS' grammar, FAULTS and values. */
final class TextTest {
    public static void main(String[] args) {
        feeding();
        sixTexts();
        forcing();
        values();
        bounds();
        names();
        faults();
        open();
        Due.end();
    }

    private static void feeding() {
        CountsIfCounted x = new CountsIfCounted();
        Due.is("5: BAD", x.feed(-1), -2);
        Due.is("5: BAD", x.feed(256), -2);
        Due.is("5: BAD", x.feed(Integer.MIN_VALUE), -2);
        for (int i = 1; i <= 160; i++) {
            Due.is("5: how many", x.feed(i % 256), i);
        }
        Due.is("5: FULL", x.feed(32), -4);
        Due.is("5: BAD is ahead of FULL", x.feed(256), -2);
        Due.is("22: bytes of THE TAPE", x.count(4), 160);
        Due.is("6: FAULT", x.text(), -100);
        Due.is("22: THE TAPE is empty", x.count(4), 0);
        Due.is("5: one again", x.feed(255), 1);
        Due.is("5: and one", x.feed(0), 2);
    }

    private static void sixTexts() {
        CountsIfCounted x = new CountsIfCounted();
        Due.is("6: an empty TAPE", x.text(), -100);
        for (int i = 1; i <= 5; i++) {
            Due.is("6: the number", Due.textOf(x, "counts 1;joys 1;goes 1;"), i);
            Due.is("22: TEXTS", x.count(3), i + 1);
            Due.is("22: THE TAPE is empty", x.count(4), 0);
        }
        Due.is("6: FULL", Due.textOf(x, "@"), -4);
        Due.is("6: THE TAPE stays", x.count(4), 1);
        Due.is("6: FULL", x.text(), -4);
        Due.is("22: TEXTS", x.count(3), 6);
    }

    private static void forcing() {
        CountsIfCounted x = new CountsIfCounted();
        Due.is("7: BAD", x.force(1), -2);
        Due.is("7: BAD", x.force(-1), -2);
        Due.is("7: BAD", x.force(Integer.MAX_VALUE), -2);
        Due.textOf(x, "counts 3;joys 1;goes 1;");
        Due.textOf(x, "counts 4;joys 1;goes 1;");
        x.person(0, 0, 0, 0);
        Due.is("7: which was", x.force(2), 0);
        Due.is("7: is THE RULE", x.told(0, 8), 4);
        Due.is("22: THE RULE", x.count(5), 2);
        Due.is("7: which was", x.force(1), 2);
        Due.is("7: is THE RULE", x.told(0, 8), 3);
        Due.is("7: BAD", x.force(3), -2);
        Due.is("7: BAD changes nothing", x.count(5), 1);
        Due.is("7: which was", x.force(0), 1);
        Due.is("7: TEXT 0", x.told(0, 8), 12);
        Due.is("7: TEXT 0 goes", x.told(0, 9), 1000);
    }

    private static void value(String e, int due) {
        CountsIfCounted x = new CountsIfCounted();
        Due.is("6: goes " + e, Due.textOf(x, "counts 0;joys 0;goes " + e + ";"), 1);
        x.force(1);
        x.person(0, 3, 40, 2);
        Due.is("goes " + e, x.told(0, 9), 1000 + due);
    }

    private static void values() {
        value("1 + 2 * 3", 7);
        value("(1 + 2) * 3", 9);
        value("10 - 3 - 2", 5);
        value("10 - (3 - 2)", 9);
        value("2*3+4*5", 26);
        value("-2*3", -6);
        value("- - 5", 5);
        value("1 - -2", 3);
        value("-(1+2)", -3);
        value("1 < 2", 1);
        value("2 < 2", 0);
        value("2 = 2", 1);
        value("2 = 3", 0);
        value("1 + 1 < 1 + 2", 1);
        value("(1 < 2) + (1 < 2)", 2);
        value("not 0", 1);
        value("not 7", 0);
        value("not not 7", 1);
        value("not 1 < 0", 1);
        value("not 1 = 0 and 5", 1);
        value("not (0 and 5)", 1);
        value("7 and -7", 1);
        value("7 and 0", 0);
        value("0 and 7", 0);
        value("0 or 7", 1);
        value("7 or 0", 1);
        value("0 or 0", 0);
        value("1 or 1 and 0", 1);
        value("0 and 1 or 1", 1);
        value("0 and (1 or 1)", 0);
        value("1 or 0 or 0", 1);
        value("(2 and 3) + (4 or 0)", 2);
        value("(1 < 2) = (3 < 4)", 1);
        value("0042", 42);
        value("9999*9999*9999*9999 < 0", (9999 * 9999 * 9999 * 9999) < 0 ? 1 : 0);
        value("(9999*9999*22) < 0", 9999 * 9999 * 22 < 0 ? 1 : 0);
        value("1 - 2 < 0 - 0", 1);
        value("1\n+ \n2", 3);
        value("0or 1and 0<1+1*(1or 1and 1<1+1*(0or 1and 1<1+1*(0or 1and 1<1+1*(0or 1and 1<1+1*(0or 1and 1<1+2*3)))))", 1);
        value("0or 2and 3<4-5*(0or 2and 3<4-5*(0or 2and 3<4-5*(0or 2and 3<4-5*(0or 2and 3<4-5*(0or 2and 3<4-5*6)))))", 1);
        value("0+7*(0or 1and 2<4-1*(0or 1and 2<4-1*(0or 1and 2<4-1*(0or 1and 2<4-1*(0or 1and 2<4-1*3)))))", 7);
    }

    private static void bounds() {
        value("99", 99);
        value("100", 99);
        value("-99", -99);
        value("-100", -99);
        value("9999", 99);
    }

    private static void names() {
        value("joy", 40);
        value("house", 2);
        value("number", 3);
        value("day", 0);
        value("good", 0);
        value("seen", 0);
        CountsIfCounted x = Due.under("counts day; joys 0; goes good*10+seen;");
        x.person(0, 3, 40, 2);
        x.set(0, 0, 9);
        x.set(2, 0, 0b10110001);
        x.set(6, 0, 5);
        Due.is("counts day", x.told(0, 8), 9);
        Due.is("goes good*10+seen", x.told(0, 9), 1045);
    }

    private static void fault(String text, int place) {
        CountsIfCounted x = new CountsIfCounted();
        Due.is("6: FAULT of " + text, Due.textOf(x, text), -100 - place);
        Due.is("6: THE TAPE is empty", x.count(4), 0);
        Due.is("6: no TEXT more", x.count(3), 1);
    }

    private static void faults() {
        fault("", 0);
        fault("   ", 3);
        fault(" joys 1;", 1);
        fault("counts", 6);
        fault("counts 1", 8);
        fault("counts 1 ;", 10);
        fault("counts 1;joys 1;goes 1", 22);
        fault("counts 1;joys 1;goes 1 \n", 24);
        fault("counts 1;joys 1;goes 1;;", 23);
        fault("counts 1;joys 1;goes 1; x", 24);
        fault("counts 1;goes 1;", 9);
        fault("count 1;", 0);
        fault("Counts 1;", 0);
        fault("counts ;", 7);
        fault("counts 12345;", 7);
        fault("counts 1+00000;", 9);
        fault("counts 1 2;", 9);
        fault("counts joyx;", 7);
        fault("counts joy house;", 11);
        fault("counts counts;", 7);
        fault("counts 1 < 2 < 3;", 13);
        fault("counts 1 = 2 = 3;", 13);
        fault("counts 1 + not 2;", 11);
        fault("counts 1 < not 2;", 11);
        fault("counts - not 2;", 9);
        fault("counts 1 and;", 12);
        fault("counts and 1;", 7);
        fault("counts 1 or or 1;", 12);
        fault("counts * 1;", 7);
        fault("counts 1 + * 1;", 11);
        fault("counts + 1;", 7);
        fault("counts (1;", 9);
        fault("counts 1);", 8);
        fault("counts ();", 8);
        fault("counts (1+);", 10);
        fault("counts 1/2;", 8);
        fault("counts 1\t;", 8);
        fault("counts 1" + (char) 200 + ";", 8);
        fault("counts 1" + (char) 0 + ";", 8);
        fault("counts not;", 10);
        fault("counts joyz;", 7);
        fault("counts ajoy;", 7);
        fault("counts joy{;", 10);
        fault("counts joy`;", 10);
        fault("counts 9:;", 8);
        fault("counts 1]2;", 8);
        fault("counts joy,1;", 10);
        fault("counts 1 not 2;", 9);
        fault("counts1;joys1;goes1!", 19);
        CountsIfCounted x = new CountsIfCounted();
        Due.is("6: blanks need not stand", Due.textOf(x, "counts1;joys1;goes1;"), 1);
        Due.is("6: blanks may stand", Due.textOf(x, "\n counts\n1 ;\njoys 1 ; goes 1 ;\n \n"), 2);
    }

    private static void open() {
        CountsIfCounted x = new CountsIfCounted();
        Due.is("6: 5 open", Due.textOf(x, "counts (((((1)))))+(((((2)))));joys -----1*-----2;goes not not not not not 1 or not 1;"), 1);
        Due.is("6: 5 open of all", Due.textOf(x, "counts not(-(-1));joys(((((1)))));goes (not (not(1))) and (not(- -1));"), 2);
        fault("counts ((((((1))))));", 12);
        fault("counts ------1;", 12);
        fault("counts not not not not not not 1;", 27);
        fault("counts not(-(-(1)));", 14);
        fault("counts (((((-1)))));", 12);
        fault("counts (((((not 1)))));", 12);
        fault("counts (((((1)+(1)))));joys 0;goes 0;)", 37);
        fault("counts (((((1)+((1))))));", 16);
        fault("counts not ((((1 and -2 < -3))));joys 0;goes 0", 21);
        fault("counts not (((1 and -2 < -3)));joys 0;goes 0", 44);
    }
}
