/** Promises 1 to 7: a new object, lay, out, hours, green, told, at. */
public final class StripsTest {
    public static void main(String[] args) {
        promise1();
        promise1Apart();
        promise2Order();
        promise2Places();
        promise2Full();
        promise3();
        promise4();
        promise5();
        promise6Knots();
        promise6Slips();
        promise6Crosses();
        promise6Rest();
        promise7();
        Due.end("StripsTest");
    }

    private static void promise1() {
        NestsByKnots n = new NestsByKnots();
        int[] counts = {0, 0, 48, 1, 0, 0, 0, 0};
        for (int what = 0; what < counts.length; what++) {
            Due.is("1: count(" + what + ")", n.count(what), counts[what]);
        }
        for (int crossing = 0; crossing < 25; crossing++) {
            Due.is("1: at(" + crossing + ")", n.at(crossing), 0);
        }
        for (int strip = 0; strip < 16; strip++) {
            Due.is("1: told(" + strip + ", 0)", n.told(strip, 0), -5);
        }
        Due.is("1: back()", n.back(), NestsByKnots.STATE);
        for (int sheet = 0; sheet < 4; sheet++) {
            Due.is("1: cell(" + sheet + ", 0, 0)", n.cell(sheet, 0, 0), -11);
        }
    }

    /** What is done with one object is not seen in another, made ahead of it or behind it. */
    private static void promise1Apart() {
        NestsByKnots ahead = new NestsByKnots();
        NestsByKnots full = Scenes.full();
        NestsByKnots behind = new NestsByKnots();
        NestsByKnots[] others = {ahead, behind};
        for (NestsByKnots n : others) {
            Due.is("1: strips", n.count(0), 0);
            Due.is("1: hour", n.count(1), 0);
            Due.is("1: green", n.count(2), 48);
            Due.is("1: texts", n.count(3), 1);
            Due.is("1: the tape", n.count(4), 0);
            Due.is("1: the rule", n.count(5), 0);
            Due.is("1: next by it", n.good(2001), -4);
            Due.is("1: no image", n.back(), NestsByKnots.STATE);
            Due.is("1: no sheet", n.cell(0, 0, 1), -11);
            Due.is("1: the first strip", n.lay(2, 12, 9), 0);
        }
        ahead.out(0);
        Due.is("1: one lies still in the other", behind.at(0), 1);
        Due.is("1: sixteen in the full one", full.count(0), 16);
    }

    private static void promise2Order() {
        NestsByKnots n = new NestsByKnots();
        Due.is("2: first", n.lay(0, 5, 0), 0);
        Due.is("2: second", n.lay(5, 5, 9), 1);
        Due.is("2: third", n.lay(2, 5, 9), 2);
        n.out(1);
        Due.is("2: the least free one", n.lay(3, 415, 2), 1);
        Due.is("2: then the next", n.lay(3, 415, 2), 3);
        n.out(0);
        n.out(2);
        Due.is("2: the least of two", n.lay(1, 1, 0), 0);
        Due.is("2: the other", n.lay(1, 1, 0), 2);
    }

    private static void promise2Places() {
        NestsByKnots n = new NestsByKnots();
        int[] kinds = {-1, 6, Integer.MIN_VALUE, Integer.MAX_VALUE};
        for (int kind : kinds) {
            Due.is("2: kind " + kind, n.lay(kind, 5, 0), NestsByKnots.BAD);
        }
        int[] numbers = {-1, 10, Integer.MIN_VALUE, Integer.MAX_VALUE};
        for (int number : numbers) {
            Due.is("2: number " + number, n.lay(0, 5, number), NestsByKnots.BAD);
        }
        boolean[] fits = new boolean[2600];
        for (int x = 0; x < 5; x++) {
            for (int y = 0; y < 5; y++) {
                for (int to = x; to < 5; to++) {
                    fits[100 * (5 * y + x) + to - x + 1] = true;
                }
                for (int to = y; to < 5; to++) {
                    fits[100 * (5 * y + x) + 10 + to - y + 1] = true;
                }
            }
        }
        for (int where = 0; where < fits.length; where++) {
            NestsByKnots one = new NestsByKnots();
            Due.is("2: where " + where, one.lay(0, where, 0), fits[where] ? 0 : NestsByKnots.BAD);
            Due.is("2: told where " + where, one.told(0, 1), fits[where] ? where : -5);
        }
        int[] bad = {-1, -95, -100, -2401, 10001, 12005, Integer.MAX_VALUE, Integer.MIN_VALUE, Integer.MIN_VALUE + 5};
        for (int where : bad) {
            Due.is("2: where " + where, n.lay(0, where, 0), NestsByKnots.BAD);
        }
        Due.is("2: 1014 does not fit below y 2", new NestsByKnots().lay(0, 1014, 0), NestsByKnots.BAD);
        Due.is("2: 1013 fits", new NestsByKnots().lay(0, 1013, 0), 0);
        Due.is("2: 203 fits", new NestsByKnots().lay(0, 203, 0), 0);
        Due.is("2: 204 does not fit", new NestsByKnots().lay(0, 204, 0), NestsByKnots.BAD);
    }

    private static void promise2Full() {
        NestsByKnots n = new NestsByKnots();
        for (int i = 0; i < 16; i++) {
            Due.is("2: strip " + i, n.lay(i % 6, 1, i % 10), i);
        }
        Due.is("2: full", n.lay(0, 1, 0), NestsByKnots.FULL);
        Due.is("2: bad ahead of full", n.lay(6, 1, 0), NestsByKnots.BAD);
        Due.is("2: bad where ahead of full", n.lay(0, 0, 0), NestsByKnots.BAD);
        Due.is("2: still 16", n.count(0), 16);
        n.out(9);
        Due.is("2: room again", n.lay(0, 1, 0), 9);
    }

    private static void promise3() {
        NestsByKnots n = new NestsByKnots();
        n.lay(0, 15, 0);
        n.lay(0, 2005, 0);
        Due.is("3: none such", n.out(2), NestsByKnots.BAD);
        Due.is("3: below", n.out(-1), NestsByKnots.BAD);
        Due.is("3: above", n.out(16), NestsByKnots.BAD);
        Due.is("3: far above", n.out(32), NestsByKnots.BAD);
        Due.is("3: least int", n.out(Integer.MIN_VALUE), NestsByKnots.BAD);
        Due.is("3: what falls lies on", n.out(0), 1);
        Due.is("3: it falls", n.falls(), 2);
        Due.is("3: nothing of it", n.at(0), 0);
        Due.is("3: once", n.out(0), NestsByKnots.BAD);
        Due.is("3: the last", n.out(1), 0);
    }

    private static void promise4() {
        NestsByKnots n = new NestsByKnots();
        int[] bad = {0, -1, 100, Integer.MAX_VALUE, Integer.MIN_VALUE};
        for (int hours : bad) {
            Due.is("4: hours(" + hours + ")", n.hours(hours), NestsByKnots.BAD);
        }
        for (int i = 1; i <= 101; i++) {
            Due.is("4: by 99", n.hours(99), 99 * i);
        }
        Due.is("4: at 9999 no more", n.hours(1), NestsByKnots.FULL);
        Due.is("4: bad ahead of full", n.hours(100), NestsByKnots.BAD);
        Due.is("4: hour", n.count(1), 9999);
        NestsByKnots o = new NestsByKnots();
        Due.is("4: 7", o.hours(7), 7);
        for (int i = 1; i <= 100; i++) {
            o.hours(99);
        }
        Due.is("4: hour 9907", o.count(1), 9907);
        Due.is("4: beyond", o.hours(93), NestsByKnots.FULL);
        Due.is("4: nothing changed", o.count(1), 9907);
        Due.is("4: just", o.hours(92), 9999);
    }

    private static void promise5() {
        NestsByKnots n = new NestsByKnots();
        Due.is("5: at first", n.green(1), 48);
        int[] bad = {0, -1, 100, Integer.MAX_VALUE, Integer.MIN_VALUE};
        for (int green : bad) {
            Due.is("5: green(" + green + ")", n.green(green), NestsByKnots.BAD);
        }
        n.lay(0, 1, 0);
        Due.is("5: green at age 0", n.told(0, 9), 1);
        n.hours(1);
        Due.is("5: not at age 1", n.told(0, 9), 0);
        Due.is("5: was 1", n.green(2), 1);
        Due.is("5: again at age 1", n.told(0, 9), 1);
        Due.is("5: to 99", n.green(99), 2);
        Due.is("5: it is 99", n.count(2), 99);
    }

    private static void promise6Knots() {
        // by kind: what it comes to for the numbers 0 and 9, at ages 0, 9, 10, 119, 120, 130
        int[][] zero = {{1, 1, 1, 1, 1, 1}, {3, 3, 3, 3, 3, 3}, {6, 6, 6, 6, 6, 6}, {3, 3, 2, 0, 0, 0},
            {6, 6, 6, 6, 6, 6}, {0, 0, 0, 0, 0, 0}};
        int[][] nine = {{10, 10, 10, 10, 10, 10}, {12, 12, 12, 12, 12, 12}, {24, 24, 24, 24, 24, 24},
            {12, 12, 11, 1, 0, 0}, {33, 33, 33, 33, 33, 33}, {5, 5, 5, 5, 5, 5}};
        int[] ages = {0, 9, 10, 119, 120, 130};
        NestsByKnots n = new NestsByKnots();
        for (int kind = 0; kind < 6; kind++) {
            n.lay(kind, 1, 0);
            n.lay(kind, 1, 9);
        }
        for (int i = 0; i < ages.length; i++) {
            goTo(n, ages[i]);
            for (int kind = 0; kind < 6; kind++) {
                Due.is("6: knot of " + kind + " at " + ages[i], n.told(2 * kind, 3), zero[kind][i]);
                Due.is("6: knot of " + kind + ", 9 at " + ages[i], n.told(2 * kind + 1, 3), nine[kind][i]);
            }
        }
        NestsByKnots play = new NestsByKnots();
        play.lay(5, 1, 6);
        Due.is("6: half of 7, cut", play.told(0, 3), 3);
    }

    private static void goTo(NestsByKnots n, int hour) {
        while (n.count(1) < hour) {
            n.hours(Math.min(99, hour - n.count(1)));
        }
    }

    private static void promise6Slips() {
        NestsByKnots n = new NestsByKnots();
        for (int kind = 0; kind < 6; kind++) {
            n.lay(kind, 1, 4);
        }
        int[] ties = {1, 2, 2, 2, 4, 1};
        for (int kind = 0; kind < 6; kind++) {
            Due.is("6: kind", n.told(kind, 0), kind);
            Due.is("6: ties of " + kind, n.told(kind, 5), ties[kind]);
        }
        int[] ages = {0, 13, 14, 99, 100, 500};
        int[] slip = {0, 0, 0, 0, 1, 1};
        int[] play = {0, 0, 1, 1, 1, 1};
        for (int i = 0; i < ages.length; i++) {
            goTo(n, ages[i]);
            Due.is("6: tuck slips at " + ages[i], n.told(0, 4), 0);
            Due.is("6: loop slips at " + ages[i], n.told(1, 4), 0);
            Due.is("6: hitch slips at " + ages[i], n.told(2, 4), 0);
            Due.is("6: slip slips at " + ages[i], n.told(3, 4), slip[i]);
            Due.is("6: double slips at " + ages[i], n.told(4, 4), 0);
            Due.is("6: play slips at " + ages[i], n.told(5, 4), play[i]);
        }
    }

    private static void promise6Crosses() {
        // seven strips through crossing 12, one of each kind and one more, and three through 10 alone
        NestsByKnots n = new NestsByKnots();
        for (int kind = 0; kind < 6; kind++) {
            n.lay(kind, 1201, 0);
        }
        n.lay(4, 1005, 0);
        n.lay(0, 1001, 0);
        n.lay(0, 1011, 0);
        n.lay(0, 1001, 0);
        int[] rubs = {1, 2, 2, 2, 4, 1, 7};
        for (int strip = 0; strip < 7; strip++) {
            Due.is("6: crosses of " + strip, n.told(strip, 6), strip == 6 ? 9 : 6);
            Due.is("6: rubs of " + strip, n.told(strip, 7), rubs[strip]);
            Due.is("6: hold of " + strip, n.told(strip, 8), n.told(strip, 3) + 3 * rubs[strip]);
        }
        Due.is("6: crosses at one end", n.told(7, 6), 3);
        Due.is("6: rubs at one end", n.told(7, 7), 1);
        Due.is("6: hold at one end", n.told(7, 8), 4);
        NestsByKnots lone = new NestsByKnots();
        lone.lay(4, 5, 9);
        Due.is("6: alone", lone.told(0, 6), 0);
        Due.is("6: alone it rubs none", lone.told(0, 7), 0);
        Due.is("6: alone it holds by its knot", lone.told(0, 8), 33);
    }

    private static void promise6Rest() {
        NestsByKnots n = new NestsByKnots();
        n.hours(5);
        n.lay(1, 712, 3);
        n.hours(47);
        Due.is("6: where", n.told(0, 1), 712);
        Due.is("6: age", n.told(0, 2), 47);
        Due.is("6: green", n.told(0, 9), 1);
        n.hours(1);
        Due.is("6: age", n.told(0, 2), 48);
        Due.is("6: green no more", n.told(0, 9), 0);
        int[] whats = {-1, 10, Integer.MIN_VALUE, Integer.MAX_VALUE};
        for (int what : whats) {
            Due.is("6: what " + what, n.told(0, what), -5);
        }
        int[] strips = {-1, 1, 15, 16, 32, Integer.MIN_VALUE, Integer.MAX_VALUE};
        for (int strip : strips) {
            Due.is("6: strip " + strip, n.told(strip, 0), -5);
        }
        rubOfTexts();
    }

    private static void rubOfTexts() {
        NestsByKnots n = Due.ruled("rub x*100+y*10+long;next 0;take 0;");
        n.lay(0, 612, 0);
        n.lay(0, 601, 0);
        Due.is("6: rub beyond 99", n.told(0, 8), 1 + 99);
        NestsByKnots o = Due.ruled("rub 0-5;next 0;take 0;");
        o.lay(0, 612, 4);
        o.lay(0, 601, 4);
        Due.is("6: rub below 0", o.told(0, 8), 5);
        NestsByKnots p = Due.ruled("rub x*27+y*9+long*4+cross*2+age+strips;next 0;take 0;");
        p.lay(0, 512, 0);
        p.lay(0, 502, 0);
        p.hours(7);
        Due.is("6: rub by all names", p.told(0, 8), 1 + 0 + 9 + 8 + 2 + 7 + 2);
        p.lay(1, 612, 0);
        Due.is("6: x, y of the first", p.told(2, 8), 3 + 27 + 9 + 8 + 2 + 0 + 3);
    }

    private static void promise7() {
        NestsByKnots n = new NestsByKnots();
        n.lay(0, 5, 0);
        n.lay(0, 115, 0);
        n.lay(0, 2005, 0);
        n.lay(0, 713, 0);
        int[] there = {1, 3, 1, 1, 1, 0, 2, 0, 0, 0, 0, 2, 0, 0, 0, 0, 2, 0, 0, 0, 4, 6, 4, 4, 4};
        there[7] = 8;
        there[12] = 8;
        there[17] = 8;
        for (int crossing = 0; crossing < 25; crossing++) {
            Due.is("7: at(" + crossing + ")", n.at(crossing), there[crossing]);
        }
        int[] bad = {-1, 25, Integer.MIN_VALUE, Integer.MAX_VALUE};
        for (int crossing : bad) {
            Due.is("7: at(" + crossing + ")", n.at(crossing), NestsByKnots.BAD);
        }
        for (int i = 0; i < 12; i++) {
            n.lay(0, 2401, 0);
        }
        Due.is("7: to the last", n.at(24), 0xFFF4);
    }
}
