/** Promises 15 to 18: good, next, build, best. */
public final class ComesNextTest {
    public static void main(String[] args) {
        promise15();
        promise16();
        promise17();
        promise18();
        promise18Strips();
        Due.end("ComesNextTest");
    }

    private static final int[] NO_LONG = {0, -1, 6, Integer.MIN_VALUE, Integer.MAX_VALUE};

    private static void promise15() {
        NestsByKnots n = new NestsByKnots();
        Due.is("15: alone on the twig", n.good(5), 0);
        Due.is("15: lower", n.good(2005), -4);
        n.lay(0, 15, 0);
        n.lay(4, 15, 9);
        Due.is("15: crosses two at five", n.good(15), 20);
        Due.is("15: crosses two at one", n.good(1003), 2);
        Due.is("15: crosses none", n.good(1102), -2);
        int[] bad = {0, -1, 6, 21, 204, 1014, 2500, 2501, 10001, Integer.MIN_VALUE, Integer.MAX_VALUE};
        for (int where : bad) {
            Due.is("15: good(" + where + ")", n.good(where), NestsByKnots.NO);
        }
        NestsByKnots m = Due.ruled("rub 0;next age*100+strips*10+long;take 0;");
        m.hours(50);
        Due.is("15: age 0, no strips", m.good(3), 3);
        for (int i = 0; i < 16; i++) {
            m.lay(0, 1, 0);
        }
        m.hours(50);
        Due.is("15: age 0, sixteen strips", m.good(3), 163);
        Due.is("15: nothing is laid", m.count(0), 16);
    }

    private static void promise16() {
        NestsByKnots n = new NestsByKnots();
        for (int many : NO_LONG) {
            Due.is("16: next(" + many + ")", n.next(many), NestsByKnots.BAD);
        }
        for (int many = 1; many <= 5; many++) {
            Due.is("16: of like ones the first, long " + many, n.next(many), many);
        }
        n.lay(0, 2213, 0);
        Due.is("16: that lies nowhere", n.at(22), 0);
        n.lay(0, 212, 0);
        Due.is("16: crossing one", n.next(1), 201);
        Due.is("16: along it", n.next(2), 212);
        Due.is("16: along it and on", n.next(3), 213);
        n.lay(0, 213, 0);
        Due.is("16: down", n.next(3), 213);
        NestsByKnots all = Due.ruled("rub 0;next -(8*4096*4096*16);take 0;");
        Due.is("16: all at the bottom of ints", all.next(4), 4);
        NestsByKnots last = Due.ruled("rub 0;next x+y-strips;take 0;");
        Due.is("16: the last one", last.next(1), 2401);
        Due.is("16: the first of the farthest", last.next(4), 914);
        NestsByKnots down = Due.ruled("rub 0;next 10*cross-y-x;take 0;");
        down.lay(0, 1214, 0);
        down.lay(0, 1213, 0);
        Due.is("16: down the third", down.next(3), 1213);
        for (int i = 0; i < 15; i++) {
            down.lay(0, 2401, 0);
        }
        Due.is("16: full", down.count(0), 16);
        Due.is("16: though full", down.next(1), 2401);
    }

    private static void promise17() {
        NestsByKnots n = new NestsByKnots();
        for (int many : NO_LONG) {
            Due.is("17: build(" + many + ", 1)", n.build(many, 1), NestsByKnots.BAD);
        }
        int[] bad = {-1, 9, Integer.MIN_VALUE, Integer.MAX_VALUE};
        for (int times : bad) {
            Due.is("17: build(1, " + times + ")", n.build(1, times), NestsByKnots.BAD);
        }
        Due.is("17: none", n.build(1, 0), 0);
        Due.is("17: nothing is laid", n.count(0), 0);
        n.hours(3);
        n.lay(1, 1202, 7);
        n.hours(3);
        Due.is("17: two", n.build(2, 2), 2);
        // along it 2 * 2 - 2, more than 2 - 1 from above
        Due.is("17: the first", n.told(1, 1), 1202);
        Due.is("17: the second", n.told(2, 1), 1202);
        Due.is("17: a tuck", n.told(1, 0), 0);
        Due.is("17: number 0", n.told(1, 3), 1);
        Due.is("17: laid now", n.told(1, 2), 0);
        n.out(1);
        Due.is("17: eight", n.build(1, 8), 8);
        Due.is("17: the least free one", n.told(1, 1), 1201);
        Due.is("17: as long as there is room", n.build(1, 8), 6);
        Due.is("17: no room", n.build(1, 8), 0);
        Due.is("17: bad ahead", n.build(0, 8), NestsByKnots.BAD);
        Due.is("17: sixteen", n.count(0), 16);
        NestsByKnots m = Due.ruled("rub 0;next x*(strips=0)+y*(strips=1)-x*(strips=2)-y;take 0;");
        m.build(1, 3);
        Due.is("17: by strips, first", m.told(0, 1), 401);
        Due.is("17: by strips, second", m.told(1, 1), 1);
        Due.is("17: by strips, third", m.told(2, 1), 1);
    }

    private static void promise18() {
        NestsByKnots n = new NestsByKnots();
        for (int many : NO_LONG) {
            Due.is("18: long " + many, n.best(0, 0, many, 0), NestsByKnots.BAD);
        }
        int[] kinds = {-1, 6, Integer.MIN_VALUE, Integer.MAX_VALUE};
        for (int kind : kinds) {
            Due.is("18: kind " + kind, n.best(kind, 0, 1, 0), NestsByKnots.BAD);
        }
        int[] numbers = {-1, 10, Integer.MIN_VALUE, Integer.MAX_VALUE};
        for (int number : numbers) {
            Due.is("18: number " + number, n.best(0, number, 1, 0), NestsByKnots.BAD);
        }
        Due.is("18: what -1", n.best(0, 0, 1, -1), NestsByKnots.BAD);
        Due.is("18: what 2", n.best(0, 0, 1, 2), NestsByKnots.BAD);
        Due.is("18: alone, of like ones the first", n.best(4, 9, 1, 0), 1);
        Due.is("18: alone, its own hold", n.best(4, 9, 1, 1), 33);
        n.lay(0, 1202, 0);
        // beside it 1 stays the least; upon both its crossings it holds 1 + 6, the new one more
        Due.is("18: along it", n.best(1, 5, 2, 0), 1202);
        Due.is("18: its hold", n.best(1, 5, 2, 1), 7);
        Due.is("18: of like ones the first crossing", n.best(1, 5, 1, 0), 1201);
        Due.is("18: one crossing", n.best(1, 5, 1, 1), 4);
        Due.is("18: down through it", n.best(1, 5, 5, 0), 1005);
        Due.is("18: row", n.best(1, 5, 5, 1), 7);
        Due.is("18: nothing is laid", n.count(0), 1);
        Due.is("18: nothing lies there", n.at(12), 1);
        Due.is("18: it crosses none", n.told(0, 6), 0);
        for (int i = 0; i < 15; i++) {
            n.lay(0, 1, 0);
        }
        Due.is("18: full", n.best(0, 0, 1, 1), NestsByKnots.FULL);
        Due.is("18: bad ahead of full", n.best(0, 0, 1, 2), NestsByKnots.BAD);
    }

    private static void promise18Strips() {
        // as laid now: age 0, strips with it
        NestsByKnots n = Due.ruled("rub strips*10+age;next 0;take 0;");
        n.lay(2, 1, 9);
        n.hours(4);
        Due.is("18: both", n.best(2, 1, 1, 1), 8 + 20);
        Due.is("18: there", n.best(2, 1, 1, 0), 1);
        NestsByKnots slip = new NestsByKnots();
        slip.lay(3, 1, 9);
        slip.hours(80);
        Due.is("18: knots at their ages", slip.best(3, 9, 1, 1), 4 + 3);
        NestsByKnots free = new NestsByKnots();
        free.lay(0, 1, 0);
        free.lay(0, 2, 0);
        free.lay(0, 3, 0);
        free.out(1);
        free.best(5, 5, 5, 0);
        Due.is("18: the free one is free", free.told(1, 0), -5);
        Due.is("18: it is the next", free.lay(1, 1, 1), 1);
    }
}
