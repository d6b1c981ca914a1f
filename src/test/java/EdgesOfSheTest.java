/** Where what comes next, what she takes, and the holes turn over; and what an IMAGE and a SHEET keep. */
public final class EdgesOfSheTest {
    private static final int NONE = NestsByKnots.NONE, STATE = NestsByKnots.STATE, FULL = NestsByKnots.FULL;

    public static void main(String[] args) {
        goodAsAhead();
        nextOfLikeOnes();
        nextOfOnePlace();
        built();
        bestOfLikeOnes();
        bestOfAll();
        when();
        whenAtLast();
        spare();
        holesByFour();
        holesBesideAll();
        closesTheRing();
        closesOfLikeOnes();
        slippedAtTheHour();
        imageOfEach();
        imageIsNoMirror();
        copiesAsTheyWere();
        stripsAhead();
        takenUnder();
        Due.end("EdgesOfSheTest");
    }

    /** As if it lay there: AGE 0, strips as ahead of it. */
    private static void goodAsAhead() {
        NestsByKnots n = Due.ruled("rub 0;next strips*100+cross*10+age;take 0;");
        for (int strips = 0; strips <= 16; strips++) {
            Due.is("15: " + strips + " ahead of it", n.good(1), 110 * strips);
            n.hours(1);
            n.lay(0, 1, 0);
        }
    }

    /** Of like ones the least first CROSSING, then WAY. */
    private static void nextOfLikeOnes() {
        int[] all = {1, 2, 3, 4, 5};
        int[] middle = {1201, 1202, 1203, 4, 5};
        int[] across = {401, 412, 413, 414, 415};
        int[] below = {1501, 1502, 1503, 1504, 1505};
        int[] last = {2401, 1912, 1413, 914, 415};
        for (int i = 0; i < 5; i++) {
            Due.is("16: all alike", Due.ruled("rub 0;next 7;take 0;").next(i + 1), all[i]);
            Due.is("16: both ways", Due.ruled("rub 0;next x=2 and y=2;take 0;").next(i + 1), middle[i]);
            Due.is("16: the least crossing, though down", Due.ruled("rub 0;next x+y=4;take 0;").next(i + 1), across[i]);
            Due.is("16: along ahead of down", Due.ruled("rub 0;next y=3 or y=4;take 0;").next(i + 1), below[i]);
            Due.is("16: the last that fits", Due.ruled("rub 0;next x*100+y;take 0;").next(i + 1), last[i]);
        }
    }

    /** One place alone is best: it is found, wherever it is. */
    private static void nextOfOnePlace() {
        for (int crossing = 0; crossing < 25; crossing++) {
            int x = crossing % 5;
            int y = crossing / 5;
            NestsByKnots n = Due.ruled("rub 0;next x=" + x + " and y=" + y + ";take 0;");
            for (int many = 1; many <= 5; many++) {
                int due = x + many <= 5 ? 100 * crossing + many : y + many <= 5 ? 100 * crossing + 10 + many : many;
                Due.is("16: crossing " + crossing + ", long " + many, n.next(many), due);
                Due.is("17: one of them", n.build(many, 1), 1);
                Due.is("17: it lies there", n.told(many - 1, 1), due);
            }
        }
    }

    private static void built() {
        for (int times = 0; times <= 8; times++) {
            for (int ahead = 7; ahead <= 16; ahead += 3) {
                NestsByKnots n = new NestsByKnots();
                for (int i = 0; i < ahead; i++) {
                    n.lay(1, 5, 3);
                }
                int due = Math.min(times, 16 - ahead);
                Due.is("17: " + times + " behind " + ahead, n.build(1, times), due);
                Due.is("17: they lie there", n.count(0), ahead + due);
                for (int strip = ahead; strip < ahead + due; strip++) {
                    Due.is("17: kind", n.told(strip, 0), 0);
                    Due.is("17: where", n.told(strip, 1), 1);
                    Due.is("17: number", n.taken(strip, 0), 0);
                    Due.is("17: age", n.told(strip, 2), 0);
                }
            }
        }
    }

    private static void bestOfLikeOnes() {
        NestsByKnots n = new NestsByKnots();
        for (int many = 1; many <= 5; many++) {
            Due.is("18: alone, long " + many, n.best(2, 9, many, 0), many);
            Due.is("18: alone it holds", n.best(2, 9, many, 1), 24);
        }
        n.lay(5, 2411, 0);
        int[] where = {2401, 2302, 2203, 2104, 2005};
        int[] down = {2411, 1912, 1413, 914, 415};
        for (int many = 1; many <= 5; many++) {
            // at the last crossing alone the play holds by a rub: 3; down there comes ahead, if it begins ahead
            Due.is("18: over it, long " + many, n.best(0, 9, many, 0), Math.min(where[many - 1], down[many - 1]));
            Due.is("18: then it holds", n.best(0, 9, many, 1), 3);
        }
        n.lay(5, 2011, 0);
        Due.is("18: over both", n.best(0, 9, 5, 0), 2005);
        Due.is("18: then both hold", n.best(0, 9, 5, 1), 3);
        Due.is("18: over one alone all are alike", n.best(0, 9, 4, 0), 4);
        Due.is("18: then one holds 0", n.best(0, 9, 4, 1), 0);
    }

    /** The least HOLD of all, also its own, with strips as there are then. */
    private static void bestOfAll() {
        NestsByKnots n = Due.ruled("rub strips;next 0;take 0;");
        Due.is("18: the first rubs none", n.best(0, 4, 1, 1), 5);
        n.lay(0, 1, 9);
        Due.is("18: its own is the least", n.best(0, 4, 1, 1), 5 + 2);
        Due.is("18: the other's is the least", n.best(4, 9, 1, 1), 10 + 2);
        n.lay(5, 2401, 0);
        Due.is("18: both hold by one another", n.best(5, 0, 1, 1), 3);
        n.lay(5, 2001, 0);
        Due.is("18: one of two holds 0", n.best(0, 9, 1, 1), 0);
        Due.is("18: both hold by it", n.best(0, 9, 5, 1), 4);
        n.out(1);
        n.out(2);
        for (int i = 0; i < 14; i++) {
            n.lay(4, 1, 9);
        }
        Due.is("18: the sixteenth", n.best(0, 0, 1, 1), 1 + 16);
        n.lay(0, 1, 0);
        Due.is("18: no seventeenth", n.best(0, 0, 1, 1), FULL);
    }

    private static void when() {
        int[] hours = {1, 2, 99, 199, 200, 201, 202, 999};
        for (int hour : hours) {
            NestsByKnots n = Due.ruled("rub 0;next 0;take age<" + hour + ";");
            Due.is("20: till " + hour, n.when(), hour <= 200 ? hour : NONE);
            n.hours(1);
            Due.is("20: an hour later", n.when(), hour == 1 ? STATE : hour <= 201 ? hour - 1 : NONE);
        }
        // the first at which she would not, though she would behind it
        NestsByKnots n = Due.ruled("rub 0;next 0;take not age=5 and not age=9;");
        Due.is("20: the fewest hours", n.when(), 5);
        n.hours(5);
        Due.is("20: not now", n.when(), STATE);
        n.hours(1);
        Due.is("20: the next", n.when(), 3);
        n.hours(4);
        Due.is("20: none is left", n.when(), NONE);
        Due.is("20: never", Due.ruled("rub 0;next 0;take 0;").when(), STATE);
    }

    /** HOLDS and GREEN are as they would be then. */
    private static void whenAtLast() {
        NestsByKnots n = Due.ruled("rub 0;next 0;take cross;");
        n.lay(3, 1, 9);
        Due.is("20: till its knot is 0", n.when(), 120);
        n.hours(99);
        Due.is("20: from there", n.when(), 21);
        n.hours(21);
        Due.is("20: it is", n.when(), STATE);
        NestsByKnots y = Due.ruled("rub 0;next 0;take y;");
        y.lay(0, 1, 0);
        Due.is("20: till it is brown", y.when(), 48);
        y.green(99);
        Due.is("20: later", y.when(), 99);
        y.hours(98);
        Due.is("20: the next hour", y.when(), 1);
        y.green(1);
        Due.is("20: at once", y.when(), STATE);
        NestsByKnots late = Due.ruled("rub age-99;next 0;take cross<10;");
        late.lay(0, 1, 0);
        late.lay(0, 1, 0);
        Due.is("20: by rub", late.when(), 99 + 9);
    }

    private static void spare() {
        NestsByKnots n = new NestsByKnots();
        n.lay(0, 15, 0);
        n.lay(0, 415, 0);
        n.lay(0, 1005, 0);
        Due.is("21: each alone, not both", n.spare(), 7);
        n.out(1);
        Due.is("21: one holds the other", n.spare(), 4);
        n.lay(0, 1213, 0);
        Due.is("21: a third by the second", n.spare(), 2);
        n.lay(0, 2401, 0);
        Due.is("21: what falls ahead", n.spare(), 2 + 8);
        n.lay(0, 1912, 0);
        Due.is("21: what lies on what falls", n.spare(), 2 + 8 + 16);
        n.lay(0, 1413, 0);
        Due.is("21: now they hang by it", n.falls(), 0);
        Due.is("21: and it is not spare", n.spare(), 2 + 8 + 16);
    }

    /** To the left, to the right, above and below: four are enough, and none is too many. */
    private static void holesByFour() {
        for (int x = 1; x <= 3; x++) {
            for (int y = 1; y <= 3; y++) {
                for (int far = 0; far < 16; far++) {
                    int left = (far & 1) == 0 ? 0 : x - 1;
                    int right = (far & 2) == 0 ? 4 : x + 1;
                    int above = (far & 4) == 0 ? 0 : y - 1;
                    int below = (far & 8) == 0 ? 4 : y + 1;
                    four(5 * y + x, new int[] {5 * y + left, 5 * y + right, 5 * above + x, 5 * below + x});
                }
            }
        }
    }

    private static void four(int hole, int[] around) {
        NestsByKnots n = new NestsByKnots();
        for (int crossing : around) {
            Due.is("23: not yet " + hole, n.holes(), 0);
            n.lay(0, 100 * crossing + 1, 0);
        }
        Due.is("23: hole " + hole, n.holes(), 1 << hole);
        Due.is("24: it is closed", n.closes(1, 0), 100 * hole + 1);
        Due.is("24: it is one", n.closes(1, 1), 1);
        for (int strip = 0; strip < 4; strip++) {
            int where = n.told(strip, 1);
            n.out(strip);
            Due.is("23: three are not enough for " + hole, n.holes(), 0);
            Due.is("24: none", n.closes(5, 1), NONE);
            n.lay(0, where, 0);
        }
        n.lay(0, 100 * hole + 1, 0);
        Due.is("23: it is covered " + hole, n.holes(), 0);
    }

    /** All but one CROSSING have a STRIP: it is a HOLE, if it lies within. */
    private static void holesBesideAll() {
        for (int hole = 0; hole < 25; hole++) {
            NestsByKnots n = new NestsByKnots();
            int x = hole % 5;
            int y = hole / 5;
            for (int row = 0; row < 5; row++) {
                if (row != y) {
                    n.lay(0, 500 * row + 5, 0);
                } else {
                    n.lay(0, 500 * row + x, 0);
                    n.lay(0, 500 * row + 100 * (x + 1) + 4 - x, 0);
                }
            }
            Due.is("28: all but one, " + hole, n.count(7), 24);
            boolean within = x > 0 && x < 4 && y > 0 && y < 4;
            Due.is("23: hole " + hole, n.holes(), within ? 1 << hole : 0);
            Due.is("24: closed by five", n.closes(5, 1), within ? 1 : NONE);
            // down through it from above, or along its row
            Due.is("24: where", n.closes(5, 0), within ? 100 * x + 15 : NONE);
        }
    }

    private static void closesTheRing() {
        NestsByKnots n = new NestsByKnots();
        int[] ring = {5, 2005, 15, 415};
        for (int where : ring) {
            Due.is("24: not yet", n.closes(1, 0), NONE);
            n.lay(0, where, 0);
        }
        int[] where = {601, 602, 603, 114, 115};
        int[] many = {1, 2, 3, 3, 3};
        for (int i = 0; i < 5; i++) {
            Due.is("24: where, long " + (i + 1), n.closes(i + 1, 0), where[i]);
            Due.is("24: how many, long " + (i + 1), n.closes(i + 1, 1), many[i]);
        }
    }

    private static void closesOfLikeOnes() {
        NestsByKnots n = new NestsByKnots();
        int[] ring = {5, 2005, 15, 415, 603, 1111, 1311, 1601};
        for (int where : ring) {
            n.lay(0, where, 0);
        }
        // holes: 12, 17, 18
        Due.is("23: three", n.holes(), 1 << 12 | 1 << 17 | 1 << 18);
        Due.is("24: the least crossing, long 1", n.closes(1, 0), 1201);
        Due.is("24: down ahead of along the next row", n.closes(2, 0), 1212);
        Due.is("24: both", n.closes(2, 1), 2);
        Due.is("24: from above", n.closes(3, 0), 713);
        Due.is("24: from the twig", n.closes(4, 0), 214);
        Due.is("24: all the way", n.closes(5, 0), 215);
        n.lay(0, 1201, 0);
        Due.is("24: along", n.closes(2, 0), 1702);
        Due.is("24: along, beginning ahead", n.closes(3, 0), 1603);
        Due.is("24: along all the row", n.closes(5, 0), 1505);
    }

    private static void slippedAtTheHour() {
        NestsByKnots n = new NestsByKnots();
        n.lay(3, 15, 9);
        n.lay(0, 2005, 0);
        n.lay(5, 2401, 9);
        n.hours(18);
        Due.is("25: not at 18", n.slipped(), 0);
        n.hours(1);
        Due.is("25: at 19", n.slipped(), 1);
        Due.is("25: the play", n.told(2, 0), -5);
        n.hours(80);
        Due.is("25: not at 99", n.slipped(), 0);
        n.image();
        n.hours(1);
        Due.is("25: at 100, and what falls", n.slipped(), 2);
        Due.is("25: once", n.slipped(), 0);
        n.back();
        Due.is("27: an hour ahead", n.slipped(), 0);
        Due.is("27: both are there", n.count(0), 2);
    }

    /** AN IMAGE keeps each of these, and nothing besides. */
    private static void imageOfEach() {
        NestsByKnots n = Scenes.some();
        n.image();
        n.hours(99);
        Due.is("27: strips", n.back(), 7);
        Due.is("27: hour", n.count(1), 27);
        n.green(26);
        n.back();
        Due.is("27: green", n.count(2), 25);
        n.force(0);
        n.back();
        Due.is("27: rule", n.count(5), 1);
        n.out(0);
        n.lay(5, 11, 9);
        n.back();
        Due.is("27: kind", n.told(0, 0), 0);
        Due.is("27: where", n.told(0, 1), 5);
        Due.is("27: age", n.told(0, 2), 27);
        Due.is("27: number", n.taken(0, 0), 4);
        Due.is("27: what lies there", n.at(5), 0);
        Due.is("9: a text", n.text(), 2);
        n.feed(2, 'x' | 'y' << 8);
        n.sheet(3, 0, 7);
        n.cell(0, 0, 77);
        n.back();
        Due.is("27: texts stay", n.count(3), 3);
        Due.is("27: the tape stays", n.count(4), 2);
        Due.is("27: sheets stay", n.cell(3, 6, 0), 1);
        Due.is("27: items stay", n.strips(0, 0, 0, 1), 0);
        Due.is("27: the new text can be the rule", n.force(2), 1);
        n.image();
        n.force(0);
        n.back();
        Due.is("27: and is kept", n.count(5), 2);
    }

    /** What comes behind an IMAGE does not change it, nor does what comes behind back(). */
    private static void imageIsNoMirror() {
        NestsByKnots n = new NestsByKnots();
        n.lay(1, 5, 4);
        n.hours(3);
        n.image();
        for (int round = 0; round < 3; round++) {
            n.out(0);
            n.lay(2, 15, 6);
            n.lay(2, 15, 6);
            n.hours(9);
            n.green(7);
            Due.is("27: one, round " + round, n.back(), 1);
            Due.is("27: hour", n.count(1), 3);
            Due.is("27: green", n.count(2), 48);
            Due.is("27: where", n.told(0, 1), 5);
            Due.is("27: kind", n.told(0, 0), 1);
            Due.is("27: age", n.told(0, 2), 3);
            Due.is("27: none besides", n.told(1, 0), -5);
            Due.is("27: what lies there", n.at(5), 0);
        }
        n.lay(0, 1, 0);
        Due.is("26: the last one alone is kept", n.image(), 2);
        n.pulled(0, 999);
        Due.is("27: two", n.back(), 2);
    }

    /** Numbers come to another place as they were ahead of the call. */
    private static void copiesAsTheyWere() {
        int[][] moves = {{0, 1, 8}, {1, 0, 8}, {0, 3, 6}, {3, 0, 6}, {0, 8, 1}, {8, 0, 1}, {0, 0, 9}, {2, 4, 5}, {4, 2, 5}};
        for (int sort = 0; sort < 3; sort++) {
            for (int[] move : moves) {
                int[] due = {1, 2, 3, 4, 5, 6, 7, 8, 9};
                System.arraycopy(due.clone(), move[0], due, move[1], move[2]);
                NestsByKnots n = new NestsByKnots();
                n.sheet(0, sort, 9);
                for (int i = 0; i < 9; i++) {
                    n.cell(0, i, i + 1);
                }
                Due.is("31: so many", n.copy(0, move[0], 0, move[1], move[2]), move[2]);
                n.sheet(1, sort, 3);
                n.cell(1, 1, 1);
                for (int i = 0; i < 9; i++) {
                    n.copy(0, i, 1, 2, 1);
                    Due.is("31: a strip by it", n.strips(1, sort, 0, 1), 1);
                    Due.is("31: item " + i + " of sort " + sort, n.taken(0, 0), due[i]);
                    n.out(0);
                }
            }
        }
    }

    /** -12: what stood ahead came. */
    private static void stripsAhead() {
        for (int n = 0; n <= 12; n++) {
            NestsByKnots nests = new NestsByKnots();
            nests.sheet(0, 1, 14);
            for (int i = 0; i < 4; i++) {
                Scenes.three(nests, 0, 3 * i, i, i == 2 ? 6 : 2401, i);
            }
            Due.is("32: " + n + " of four, one is left out", nests.strips(0, 1, 0, n), n > 4 ? -12 : n > 2 ? n - 1 : n);
            Due.is("32: what came", nests.count(0), n > 3 ? 3 : n > 2 ? 2 : n);
            Due.is("32: the last that came", nests.told(2, 0), n > 3 ? 3 : -5);
        }
        for (int size = 0; size <= 9; size++) {
            NestsByKnots nests = new NestsByKnots();
            nests.sheet(0, 0, size);
            for (int item = 1; item < size; item += 3) {
                nests.cell(0, item, 5);
            }
            Due.is("32: three of " + size + " items", nests.strips(0, 0, 0, 3), size < 9 ? -12 : 3);
            Due.is("32: so many came of " + size, nests.count(0), size / 3);
        }
    }

    /** A STRIP is taken for its own KIND, or one above it, also by others between. */
    private static void takenUnder() {
        int[] above = {-1, 0, 1, 1, 2, 0};
        for (int kind = 0; kind < 6; kind++) {
            for (int k = 0; k < 6; k++) {
                NestsByKnots n = new NestsByKnots();
                n.lay(kind, 1, 9);
                n.lay(kind, 1, 0);
                boolean under = false;
                for (int up = kind; up >= 0; up = above[up]) {
                    under |= up == k;
                }
                Due.is("33: kind " + kind + " for " + k, n.taken(0, k), under ? 9 : -13);
                Due.is("33: number 0, kind " + kind + " for " + k, n.taken(1, k), under ? 0 : -13);
            }
        }
    }
}
