/** Where the terms of STRIPS, of holding and of hanging turn over: just on this side, and just on the other. */
public final class EdgesOfStripsTest {
    private static final int NONE = NestsByKnots.NONE;

    public static void main(String[] args) {
        twig();
        alongTheNet();
        ages();
        slipKnots();
        halfKnots();
        slipsByAge();
        ties();
        crossesAtAPlace();
        green();
        leastFree();
        pulls();
        pullsOf999();
        hangs();
        leastPull();
        leastPullOfLikeOnes();
        left();
        Due.end("EdgesOfStripsTest");
    }

    private static NestsByKnots went(NestsByKnots n, int hour) {
        for (int now = n.count(1); now < hour; now = n.count(1)) {
            n.hours(Math.min(99, hour - now));
        }
        return n;
    }

    /** The TWIG is y 0: the crossings 0 .. 4. */
    private static void twig() {
        for (int crossing = 0; crossing < 25; crossing++) {
            NestsByKnots n = new NestsByKnots();
            n.lay(0, 100 * crossing + 1, 0);
            Due.is("13: one crossing, " + crossing, n.falls(), crossing < 5 ? 0 : 1);
            Due.is("11: it comes out by the weakest pull, " + crossing, n.pull(0, 1, 1), crossing < 5 ? 0 : 1);
        }
        NestsByKnots n = new NestsByKnots();
        n.lay(0, 415, 0);
        n.lay(0, 505, 0);
        Due.is("13: from the twig down, and across it", n.falls(), 0);
        n.out(0);
        Due.is("13: below the twig", n.falls(), 2);
        n.lay(0, 5, 0);
        Due.is("13: just above it, but meeting it nowhere", n.falls(), 2);
        n.lay(0, 412, 0);
        Due.is("13: met at its last crossing", n.falls(), 0);
    }

    /** A STRIP lies at all its CROSSINGS, and at no other. */
    private static void alongTheNet() {
        for (int many = 1; many <= 5; many++) {
            for (int where : Asked.places(many)) {
                NestsByKnots n = new NestsByKnots();
                n.lay(0, where, 0);
                int step = where / 10 % 10 == 0 ? 1 : 5;
                for (int crossing = 0; crossing < 25; crossing++) {
                    boolean lies = false;
                    for (int i = 0; i < many; i++) {
                        lies |= crossing == where / 100 + step * i;
                    }
                    Due.is("7: at(" + crossing + ") of " + where, n.at(crossing), lies ? 1 : 0);
                }
                Due.is("28: crossings of " + where, n.count(7), many);
            }
        }
    }

    private static void ages() {
        NestsByKnots n = new NestsByKnots();
        n.lay(0, 1, 0);
        Due.is("6: age at once", n.told(0, 2), 0);
        n.hours(1);
        Due.is("6: age", n.told(0, 2), 1);
        n.lay(0, 1, 0);
        Due.is("6: laid an hour later", n.told(1, 2), 0);
        n.hours(99);
        Due.is("6: age", n.told(0, 2), 100);
        Due.is("6: an hour less", n.told(1, 2), 99);
        n.out(0);
        n.lay(0, 1, 0);
        Due.is("6: in the place of an old one", n.told(0, 2), 0);
    }

    /** A LOOP's, less AGE by 10, cut; 0 at least. */
    private static void slipKnots() {
        for (int number = 0; number <= 9; number++) {
            NestsByKnots n = new NestsByKnots();
            n.lay(3, 1, number);
            int[] ages = {0, 9, 10, 19, 20, 10 * (number + 2) + 9, 10 * (number + 3), 10 * (number + 3) + 9,
                10 * (number + 4), 10 * (number + 4) + 9, 999};
            int[] less = {0, 0, 1, 1, 2, number + 2, number + 3, number + 3, number + 3, number + 3, number + 3};
            for (int i = 0; i < ages.length; i++) {
                went(n, ages[i]);
                Due.is("6: slip of " + number + " at age " + n.told(0, 2), n.told(0, 3), number + 3 - less[i]);
                Due.is("6: its hold", n.told(0, 8), number + 3 - less[i]);
            }
            n.lay(0, 1, 0);
            Due.is("6: it holds by its rubs alone", n.told(0, 8), 3);
            Due.is("6: its knot is still 0", n.told(0, 3), 0);
        }
    }

    private static void halfKnots() {
        for (int number = 0; number <= 9; number++) {
            NestsByKnots n = new NestsByKnots();
            for (int kind = 0; kind < 6; kind++) {
                n.lay(kind, 100 * kind + 1, number);
            }
            int[] knots = {number + 1, number + 3, 2 * number + 6, number + 3, 3 * number + 6, (number + 1) / 2};
            for (int kind = 0; kind < 6; kind++) {
                Due.is("6: knot of " + kind + ", number " + number, n.told(kind, 3), knots[kind]);
            }
        }
        int[] halves = {0, 1, 1, 2, 2, 3, 3, 4, 4, 5};
        for (int number = 0; number <= 9; number++) {
            NestsByKnots n = new NestsByKnots();
            n.lay(5, 1, number);
            Due.is("6: half of " + (number + 1) + ", cut", n.told(0, 3), halves[number]);
        }
    }

    /** SLIP: from AGE 100 on; PLAY: from AGE 10 and NUMBER on; the others never. */
    private static void slipsByAge() {
        for (int number = 0; number <= 9; number++) {
            NestsByKnots n = new NestsByKnots();
            for (int kind = 0; kind < 6; kind++) {
                n.lay(kind, 1, number);
            }
            int[] ages = {0, 9 + number, 10 + number, 11 + number, 99, 100, 101, 9999};
            for (int i = 0; i < ages.length; i++) {
                went(n, ages[i]);
                for (int kind = 0; kind < 6; kind++) {
                    boolean slips = kind == 5 && i >= 2 || kind == 3 && i >= 5;
                    Due.is("6: kind " + kind + ", number " + number + ", age " + ages[i], n.told(kind, 4), slips ? 1 : 0);
                }
                if (i == 1 || i == 4) {
                    Due.is("25: none but play, at age " + ages[i], n.image(), 6);
                    Due.is("25: so many, at age " + ages[i], n.slipped(), i == 1 ? 0 : 1);
                    n.back();
                }
            }
            Due.is("25: both at last", n.slipped(), 2);
        }
    }

    /** No more at each CROSSING than TIES. */
    private static void ties() {
        int[] ties = {1, 2, 2, 2, 4, 1};
        for (int kind = 0; kind < 6; kind++) {
            NestsByKnots n = new NestsByKnots();
            n.lay(kind, 2, 0);
            for (int others = 0; others <= 6; others++) {
                Due.is("6: crosses " + others, n.told(0, 6), others);
                Due.is("6: kind " + kind + " rubs of " + others, n.told(0, 7), Math.min(others, ties[kind]));
                n.lay(others % 6, 1, 0);
            }
            // what lies at its other crossing is counted by itself
            n.lay(0, 101, 0);
            Due.is("6: kind " + kind + " rubs at both", n.told(0, 7), ties[kind] + 1);
            Due.is("6: and crosses", n.told(0, 6), 8);
        }
    }

    private static void crossesAtAPlace() {
        NestsByKnots n = new NestsByKnots();
        n.lay(4, 703, 0);
        n.lay(0, 602, 0);
        Due.is("6: met at its first crossing", n.told(0, 6), 1);
        n.lay(0, 601, 0);
        Due.is("6: beside it", n.told(0, 6), 1);
        n.lay(0, 215, 0);
        Due.is("6: and once more there", n.told(0, 6), 2);
        n.lay(0, 901, 0);
        Due.is("6: at its last crossing", n.told(0, 6), 3);
        n.lay(0, 1203, 0);
        Due.is("6: below it", n.told(0, 6), 3);
        n.lay(0, 703, 0);
        Due.is("6: along all of it", n.told(0, 6), 6);
        // four at its first crossing, two, and three
        Due.is("15: one more would cross it, too", n.good(703), 2 * (4 + 2 + 3) - 1);
    }

    /** GREEN: AGE is below that. */
    private static void green() {
        int[] values = {1, 2, 48, 98, 99};
        for (int value : values) {
            NestsByKnots n = new NestsByKnots();
            Due.is("5: what it was", n.green(value), 48);
            Due.is("5: what it is", n.count(2), value);
            n.lay(0, 1, 0);
            went(n, value - 1);
            Due.is("6: green at age " + (value - 1), n.told(0, 9), 1);
            Due.is("22: not brown now", n.brown(0), 0);
            Due.is("22: brown an hour later", n.brown(1), 1);
            Due.is("28: one", n.count(6), 1);
            n.hours(1);
            Due.is("6: not green at age " + value, n.told(0, 9), 0);
            Due.is("22: brown now", n.brown(0), 1);
            Due.is("28: none", n.count(6), 0);
            n.lay(0, 1, 0);
            Due.is("22: the old one alone", n.brown(value - 1), 1);
            Due.is("22: both", n.brown(value), 3);
            Due.is("22: both at most later", n.brown(999), 3);
        }
        NestsByKnots n = new NestsByKnots();
        n.lay(0, 1, 0);
        n.hours(47);
        Due.is("5: green by 48", n.told(0, 9), 1);
        n.green(47);
        Due.is("5: not by 47", n.told(0, 9), 0);
    }

    private static void leastFree() {
        for (int free = 0; free < 16; free++) {
            NestsByKnots n = new NestsByKnots();
            for (int strip = 0; strip < 16; strip++) {
                n.lay(0, 1, 0);
            }
            n.out(15);
            Due.is("3: one that is out is none", n.out(15), NestsByKnots.BAD);
            n.lay(0, 1, 0);
            n.out(free);
            if (free < 15) {
                n.out(15);
            }
            Due.is("2: the least free one", n.lay(0, 1, 0), free);
        }
    }

    /** Those there whose HOLD is less than the PULL is strong. */
    private static void pulls() {
        int[] holds = {10, 12, 24, 12, 33, 5};
        for (int kind = 0; kind < 6; kind++) {
            NestsByKnots n = new NestsByKnots();
            n.lay(kind, 702, 9);
            n.lay(0, 215, 9);
            // it rubs one there: 3 more
            Due.is("11: as strong as it holds, kind " + kind, n.pull(8, holds[kind] + 3, 0), 0);
            Due.is("11: one more, kind " + kind, n.pull(8, holds[kind] + 4, 0), 1);
            Due.is("12: as strong as it holds, kind " + kind, n.pulled(8, holds[kind] + 3), 0);
            Due.is("14: one more than it holds, kind " + kind, n.least(8, 0), holds[kind] + 4);
            Due.is("12: one more, kind " + kind, n.pulled(8, holds[kind] + 4), 1);
        }
        NestsByKnots n = new NestsByKnots();
        n.lay(5, 1, 0);
        Due.is("6: holds by nothing", n.told(0, 8), 0);
        Due.is("11: the weakest pull", n.pull(0, 1, 0), 1);
        Due.is("14: the least pull of all", n.least(0, 0), 1);
        n.out(0);
        n.lay(5, 1, 1);
        Due.is("6: holds 1", n.told(0, 8), 1);
        Due.is("11: too weak", n.pull(0, 1, 0), 0);
        Due.is("14: one more", n.least(0, 0), 2);
    }

    private static void pullsOf999() {
        // each rubs two at each of five by 99; a double of number 1 holds 9 and a hitch of number 1 holds 8 besides
        NestsByKnots n = Due.ruled("rub 99;next 0;take 0;");
        for (int i = 0; i < 3; i++) {
            n.lay(4, 5, 1);
            Due.is("11: it rubs so many", n.told(0, 7), 5 * i);
        }
        Due.is("6: holds 999", n.told(0, 8), 999);
        Due.is("11: the strongest pull is no more", n.pull(0, 999, 0), 0);
        Due.is("12: nothing comes out", n.pulled(0, 999), 0);
        Due.is("14: it would have to be one more", n.least(0, 0), 1000);
        n.out(1);
        n.lay(2, 5, 1);
        Due.is("6: holds 998", n.told(1, 8), 998);
        Due.is("11: not by 998", n.pull(0, 998, 0), 0);
        Due.is("11: it comes out, and then the others", n.pull(0, 999, 0), 7);
        Due.is("14: by as much", n.least(0, 0), 999);
    }

    /** One with a CROSSING at which another one that HANGS lies: not beside it. */
    private static void hangs() {
        NestsByKnots n = new NestsByKnots();
        n.lay(0, 12, 0);
        n.lay(0, 602, 0);
        Due.is("13: beside it", n.falls(), 2);
        n.lay(0, 1002, 0);
        Due.is("13: below it", n.falls(), 6);
        n.lay(0, 502, 0);
        Due.is("13: at its last crossing, and that at its last", n.falls(), 4);
        n.lay(0, 1511, 0);
        n.lay(0, 1112, 0);
        Due.is("13: beside those that fall", n.falls(), 4 + 16 + 32);
        n.lay(0, 613, 0);
        Due.is("13: between both", n.falls(), 16);
        // two that lie on one another alone do not hang by one another
        NestsByKnots two = new NestsByKnots();
        two.lay(0, 1203, 0);
        two.lay(0, 1203, 0);
        Due.is("13: by one another", two.falls(), 3);
    }

    private static void leastPull() {
        NestsByKnots n = new NestsByKnots();
        n.lay(1, 1, 0);
        Due.is("14: one alone", n.least(0, 0), 4);
        n.lay(1, 1, 0);
        // each rubs one: 3 + 3; then the other one 3
        Due.is("14: two alike", n.least(0, 0), 7);
        n.lay(4, 1, 9);
        // 3 + 6, 3 + 6, 33 + 6; then 3 + 3, 33 + 3; then 33
        Due.is("14: the last one holds most", n.least(0, 0), 34);
        NestsByKnots apart = new NestsByKnots();
        apart.lay(0, 2, 5);
        apart.lay(4, 102, 9);
        Due.is("14: what lies elsewhere stays", apart.least(0, 0), 6 + 3 + 1);
        Due.is("14: and is rubbed till the last", apart.least(2, 0), 33 + 3 + 1);
    }

    private static void leastPullOfLikeOnes() {
        // three hold by their knots: 5, 5, 33; two rub one another by 9 at each crossing where both lie
        NestsByKnots n = Due.ruled("rub 9*(strips<3);next 0;take 0;");
        n.lay(0, 5, 4);
        n.lay(0, 11, 4);
        n.lay(4, 5, 9);
        // strip 0 goes by 5, strip 1 by 5 + 9, strip 2 by 33
        Due.is("14: of like ones the least", n.least(0, 0), 34);
        NestsByKnots m = Due.ruled("rub 9*(strips<3);next 0;take 0;");
        m.lay(0, 11, 4);
        m.lay(0, 5, 4);
        m.lay(4, 5, 9);
        // strip 0 goes by 5, strip 1 by 5 + 45, strip 2 by 33
        Due.is("14: the least is the other one", m.least(0, 0), 51);
    }

    private static void left() {
        NestsByKnots n = new NestsByKnots();
        n.lay(0, 1, 0);
        Due.is("14: none", n.least(0, 1), 0);
        n.lay(0, 101, 0);
        Due.is("14: one", n.least(0, 1), 1);
        n.lay(0, 2401, 0);
        Due.is("14: what falls anyway is not left", n.least(0, 1), 1);
        Due.is("14: nor when it comes out itself", n.least(24, 1), 2);
        Due.is("14: nothing there", n.least(23, 1), NONE);
        n.lay(0, 115, 0);
        n.lay(0, 2005, 0);
        Due.is("14: by one that stays", n.least(24, 1), 3);
        Due.is("14: all but one hang by what goes", n.least(1, 1), 1);
    }
}
