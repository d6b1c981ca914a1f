/** Promises 19 to 28: takes, when, spare, brown, holes, closes, slipped, image, back, count. */
public final class SheTest {
    public static void main(String[] args) {
        promise19();
        promise20();
        promise21();
        promise22();
        promise23();
        promise24();
        promise25();
        promise26And27();
        promise27Rule();
        promise28();
        Due.end("SheTest");
    }

    private static void promise19() {
        NestsByKnots n = new NestsByKnots();
        for (int i = 0; i < 3; i++) {
            n.lay(0, 5, 0);
        }
        Due.is("19: three are green", n.takes(), 0);
        n.lay(0, 1, 0);
        Due.is("19: four are green, five crossings", n.takes(), 1);
        n.out(0);
        n.lay(0, 1, 0);
        Due.is("19: any four", n.takes(), 1);
        NestsByKnots few = new NestsByKnots();
        for (int i = 0; i < 5; i++) {
            few.lay(0, 4, 0);
        }
        Due.is("19: four crossings", few.takes(), 0);
        few.lay(0, 501, 0);
        Due.is("19: five crossings", few.takes(), 1);
        few.hours(47);
        Due.is("19: still green", few.takes(), 1);
        few.hours(1);
        Due.is("19: all brown", few.takes(), 0);
        names();
    }

    private static void names() {
        // for the take of x, y, cross, long, age, strips in turn: 3 strips, 2 of them green, hour 60
        int[] values = {7, 2, 1, 0, 60, 3};
        String[] names = {"x", "y", "cross", "long", "age", "strips"};
        for (int i = 0; i < names.length; i++) {
            NestsByKnots n = Due.ruled("rub 2;next 0;take " + names[i] + "=" + values[i] + ";");
            n.lay(4, 5, 9);
            n.hours(60);
            n.lay(0, 1212, 0);
            n.lay(1, 302, 5);
            n.lay(1, 401, 5);
            n.out(2);
            Due.is("19: " + names[i], n.takes(), 1);
        }
        NestsByKnots none = Due.ruled("rub 2;next 0;take cross=0 and x=0 and y=0 and strips=0;");
        Due.is("19: without any", none.takes(), 1);
        NestsByKnots any = Due.ruled("rub 2;next 0;take 0-7;");
        Due.is("19: not 0", any.takes(), 1);
    }

    private static void promise20() {
        NestsByKnots n = new NestsByKnots();
        Due.is("20: not now", n.when(), NestsByKnots.STATE);
        for (int i = 0; i < 4; i++) {
            n.lay(0, 5, 0);
        }
        Due.is("20: till one is brown", n.when(), 48);
        n.lay(0, 5, 0);
        Due.is("20: till two are brown", n.when(), 48);
        n.hours(47);
        Due.is("20: the next hour", n.when(), 1);
        Due.is("20: no hour went by", n.count(1), 47);
        n.hours(1);
        Due.is("20: not now", n.when(), NestsByKnots.STATE);
        NestsByKnots ever = Due.ruled("rub 0;next 0;take 1;");
        Due.is("20: never", ever.when(), NestsByKnots.NONE);
        NestsByKnots late = Due.ruled("rub 0;next 0;take age<207;");
        Due.is("20: too late", late.when(), NestsByKnots.NONE);
        late.hours(6);
        Due.is("20: 201 hours", late.when(), NestsByKnots.NONE);
        late.hours(1);
        Due.is("20: 200 hours", late.when(), 200);
        NestsByKnots slip = Due.ruled("rub age;next 0;take cross;");
        slip.lay(3, 1, 9);
        Due.is("20: a knot with age", slip.when(), 120);
        slip.lay(0, 1, 0);
        Due.is("20: both rub", slip.when(), NestsByKnots.NONE);
        NestsByKnots dusk = Due.ruled("rub 0;next 0;take age<9999+10;");
        for (int i = 0; i < 101; i++) {
            dusk.hours(99);
        }
        Due.is("20: beyond the last hour, as if", dusk.when(), 10);
    }

    private static void promise21() {
        NestsByKnots n = new NestsByKnots();
        Due.is("21: none", n.spare(), 0);
        n.lay(0, 15, 0);
        Due.is("21: alone", n.spare(), 1);
        n.lay(0, 2005, 0);
        Due.is("21: it holds one", n.spare(), 2);
        n.lay(0, 415, 0);
        Due.is("21: held at both ends", n.spare(), 7);
        n.lay(0, 1201, 0);
        Due.is("21: what falls is spare", n.spare(), 15);
        n.lay(0, 1202, 0);
        Due.is("21: holding what falls is spare", n.spare(), 31);
        n.lay(0, 315, 0);
        Due.is("21: nothing is taken out", n.count(0), 6);
        Due.is("21: 5 holds 4, and 4 holds 3", n.spare(), 15);
    }

    private static void promise22() {
        NestsByKnots n = new NestsByKnots();
        n.lay(0, 1, 0);
        n.hours(10);
        n.lay(0, 1, 0);
        n.lay(0, 1, 0);
        n.out(1);
        Due.is("22: now", n.brown(0), 0);
        Due.is("22: an hour ahead", n.brown(37), 0);
        Due.is("22: the first", n.brown(38), 1);
        Due.is("22: an hour ahead", n.brown(47), 1);
        Due.is("22: both", n.brown(48), 5);
        Due.is("22: late", n.brown(999), 5);
        n.green(1);
        Due.is("22: by green", n.brown(0), 1);
        int[] bad = {-1, 1000, Integer.MIN_VALUE, Integer.MAX_VALUE};
        for (int later : bad) {
            Due.is("22: brown(" + later + ")", n.brown(later), NestsByKnots.BAD);
        }
        Due.is("22: no hour went by", n.count(1), 10);
    }

    private static void promise23() {
        NestsByKnots n = new NestsByKnots();
        Due.is("23: none", n.holes(), 0);
        n.lay(0, 5, 0);
        n.lay(0, 2005, 0);
        n.lay(0, 15, 0);
        Due.is("23: three sides", n.holes(), 0);
        n.lay(0, 901, 0);
        Due.is("23: one row", n.holes(), 7 << 6);
        n.lay(0, 1901, 0);
        Due.is("23: two rows", n.holes(), 7 << 6 | 7 << 16);
        n.lay(0, 1203, 0);
        Due.is("23: the row between", n.holes(), 7 << 6 | 1 << 11 | 7 << 16);
        n.lay(0, 712, 0);
        Due.is("23: less one", n.holes(), 5 << 6 | 1 << 11 | 7 << 16);
        NestsByKnots corner = new NestsByKnots();
        corner.lay(0, 1, 0);
        corner.lay(0, 401, 0);
        corner.lay(0, 2001, 0);
        corner.lay(0, 2401, 0);
        Due.is("23: corners alone", corner.holes(), 0);
        corner.lay(0, 201, 0);
        corner.lay(0, 2201, 0);
        corner.lay(0, 1001, 0);
        Due.is("23: not to the right", corner.holes(), 0);
        corner.lay(0, 1401, 0);
        Due.is("23: by one of each side", corner.holes(), 1 << 12);
    }

    private static void promise24() {
        NestsByKnots n = new NestsByKnots();
        int[] bad = {0, -1, 6, Integer.MIN_VALUE, Integer.MAX_VALUE};
        for (int many : bad) {
            Due.is("24: closes(" + many + ", 0)", n.closes(many, 0), NestsByKnots.BAD);
        }
        Due.is("24: what -1", n.closes(1, -1), NestsByKnots.BAD);
        Due.is("24: what 2", n.closes(1, 2), NestsByKnots.BAD);
        Due.is("24: none", n.closes(1, 0), NestsByKnots.NONE);
        Due.is("24: none", n.closes(1, 1), NestsByKnots.NONE);
        n.lay(0, 5, 0);
        n.lay(0, 2005, 0);
        n.lay(0, 15, 0);
        n.lay(0, 415, 0);
        n.lay(0, 603, 0);
        // holes: 11, 12, 13 and 16, 17, 18
        int[] where = {1101, 1102, 1103, 1004, 1005};
        int[] many = {1, 2, 3, 3, 3};
        for (int i = 0; i < 5; i++) {
            Due.is("24: where, long " + (i + 1), n.closes(i + 1, 0), where[i]);
            Due.is("24: how many, long " + (i + 1), n.closes(i + 1, 1), many[i]);
        }
        n.lay(0, 1301, 0);
        n.lay(0, 1602, 0);
        // holes: 11, 12 and 18
        Due.is("24: the row", n.closes(2, 0), 1102);
        n.lay(0, 1201, 0);
        n.lay(0, 1101, 0);
        Due.is("24: the last hole", n.closes(2, 0), 1312);
        Due.is("24: the last hole", n.closes(2, 1), 1);
        Due.is("24: by one", n.closes(1, 0), 1801);
        for (int i = 0; i < 7; i++) {
            n.lay(0, 1, 0);
        }
        Due.is("24: full", n.count(0), 16);
        Due.is("24: though full", n.closes(5, 0), 315);
    }

    private static void promise25() {
        NestsByKnots n = new NestsByKnots();
        Due.is("25: none", n.slipped(), 0);
        n.lay(5, 15, 0);
        n.lay(0, 2005, 0);
        n.lay(5, 5, 3);
        n.hours(9);
        Due.is("25: not yet", n.slipped(), 0);
        n.hours(1);
        Due.is("25: and what falls then", n.slipped(), 2);
        Due.is("25: strip 2 hangs", n.at(0), 4);
        Due.is("25: none at the end", n.at(24), 0);
        n.lay(0, 2401, 0);
        Due.is("25: what falls, without a slip", n.slipped(), 1);
        n.lay(3, 1, 0);
        n.lay(1, 1, 0);
        n.hours(3);
        Due.is("25: number 3 at 13", n.slipped(), 1);
        n.hours(96);
        Due.is("25: 99", n.slipped(), 0);
        n.hours(1);
        Due.is("25: 100", n.slipped(), 1);
        Due.is("25: a loop stays", n.count(0), 1);
        Due.is("25: it is strip 1", n.at(0), 2);
    }

    private static void promise26And27() {
        NestsByKnots n = new NestsByKnots();
        Due.is("27: there is none", n.back(), NestsByKnots.STATE);
        Due.is("26: none", n.image(), 0);
        n.lay(0, 1, 0);
        Due.is("27: none", n.back(), 0);
        Due.is("27: none lies", n.at(0), 0);
        n.lay(2, 702, 3);
        n.lay(1, 212, 5);
        n.hours(8);
        n.lay(3, 1, 7);
        n.out(0);
        n.green(50);
        Due.is("26: two", n.image(), 2);
        n.green(2);
        n.hours(90);
        n.pulled(0, 999);
        n.lay(5, 5, 9);
        n.lay(5, 2005, 9);
        n.lay(5, 2005, 9);
        Due.is("27: two again", n.back(), 2);
        Due.is("27: hour", n.count(1), 8);
        Due.is("27: green", n.count(2), 50);
        Due.is("27: crossings", n.count(7), 3);
        Due.is("27: free", n.told(0, 0), -5);
        int[][] due = {{1, 212, 8, 8, 0, 2, 0, 0, 8, 1}, {3, 1, 0, 10, 0, 2, 0, 0, 10, 1}};
        for (int strip = 1; strip <= 2; strip++) {
            for (int what = 0; what < 10; what++) {
                Due.is("27: told(" + strip + ", " + what + ")", n.told(strip, what), due[strip - 1][what]);
            }
        }
        Due.is("27: lies", n.at(2), 2);
        Due.is("27: lies", n.at(20), 0);
        n.out(1);
        n.out(2);
        Due.is("27: once more", n.back(), 2);
        n.out(1);
        Due.is("26: anew", n.image(), 1);
        n.out(2);
        Due.is("27: as it was last", n.back(), 1);
    }

    private static void promise27Rule() {
        NestsByKnots n = new NestsByKnots();
        n.image();
        Due.text(n, "rub 1;next 77;take 1;");
        n.force(1);
        Due.feed(n, "rub");
        n.sheet(0, 0, 3);
        n.back();
        Due.is("27: the rule", n.count(5), 0);
        Due.is("27: by the rule", n.good(1), 0);
        Due.is("27: texts stay", n.count(3), 2);
        Due.is("27: the tape stays", n.count(4), 3);
        Due.is("27: sheets stay", n.cell(0, 2, 1), 1);
        n.force(1);
        n.image();
        n.force(0);
        n.back();
        Due.is("27: to 1", n.count(5), 1);
        Due.is("27: by 1", n.good(1), 77);
    }

    private static void promise28() {
        NestsByKnots n = new NestsByKnots();
        n.lay(0, 5, 0);
        n.hours(30);
        n.green(31);
        n.lay(0, 15, 0);
        n.lay(0, 15, 0);
        n.hours(1);
        Due.text(n, "rub 0;next 0;take 0;");
        Due.text(n, "rub 0;next 0;take 0;");
        n.force(1);
        n.feed(7, 0);
        int[] due = {3, 31, 31, 3, 7, 1, 2, 9};
        for (int what = 0; what < 8; what++) {
            Due.is("28: count(" + what + ")", n.count(what), due[what]);
        }
        int[] bad = {-1, 8, Integer.MIN_VALUE, Integer.MAX_VALUE};
        for (int what : bad) {
            Due.is("28: count(" + what + ")", n.count(what), NestsByKnots.BAD);
        }
    }
}
