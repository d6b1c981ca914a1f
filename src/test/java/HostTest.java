/** Promises 29 to 33: sheet, cell, copy, strips, taken. */
public final class HostTest {
    private static final int LEAST = Integer.MIN_VALUE;
    private static final int MOST = Integer.MAX_VALUE;

    public static void main(String[] args) {
        promise29();
        promise30();
        promise30Bits();
        promise31();
        promise31Refusals();
        promise32();
        promise32Refusals();
        promise33();
        Due.end("HostTest");
    }

    private static void promise29() {
        NestsByKnots n = new NestsByKnots();
        int[] sheets = {-1, 4, LEAST, MOST};
        for (int sheet : sheets) {
            Due.is("29: sheet " + sheet, n.sheet(sheet, 0, 1), NestsByKnots.BAD);
            Due.is("29: sheet " + sheet + " missing", n.sheet(sheet, -1, 1), NestsByKnots.BAD);
        }
        int[] sorts = {-2, 3, LEAST, MOST};
        for (int sort : sorts) {
            Due.is("29: sort " + sort, n.sheet(0, sort, 1), NestsByKnots.BAD);
            Due.is("29: sort " + sort + " ahead of -14", n.sheet(0, sort, -1), NestsByKnots.BAD);
        }
        for (int sort = 0; sort < 3; sort++) {
            Due.is("29: 40", n.sheet(3, sort, 40), 1);
            Due.is("29: the last", n.cell(3, 39, 5), 1);
            Due.is("29: behind it", n.cell(3, 40, 5), -12);
            Due.is("29: 41", n.sheet(3, sort, 41), NestsByKnots.BAD);
            Due.is("29: most", n.sheet(3, sort, MOST), NestsByKnots.BAD);
            Due.is("29: -1", n.sheet(3, sort, -1), -14);
            Due.is("29: least", n.sheet(3, sort, LEAST), -14);
            Due.is("29: as it was", n.cell(3, 39, 5), 1);
            Due.is("29: 0", n.sheet(3, sort, 0), 1);
            Due.is("29: none", n.cell(3, 0, 5), -12);
        }
        int[] any = {0, -1, 41, LEAST, MOST};
        for (int size : any) {
            n.sheet(2, 0, 4);
            Due.is("29: missing, size " + size, n.sheet(2, -1, size), 1);
            Due.is("29: nothing", n.cell(2, 0, 0), -11);
        }
        n.sheet(0, 2, 3);
        n.cell(0, 1, 1);
        Due.is("29: a strip from 0, 1, 0", n.strips(0, 2, 0, 1), 1);
        n.sheet(0, 2, 3);
        Due.is("29: all 0", n.strips(0, 2, 0, 1), 0);
    }

    private static void promise30() {
        NestsByKnots n = new NestsByKnots();
        int[] sheets = {-1, 4, LEAST, MOST};
        for (int sheet : sheets) {
            Due.is("30: sheet " + sheet, n.cell(sheet, 0, 0), NestsByKnots.BAD);
        }
        Due.is("30: nothing ahead of outside", n.cell(1, -1, 0), -11);
        n.sheet(1, 1, 3);
        int[] outside = {-1, 3, LEAST, MOST};
        for (int i : outside) {
            Due.is("30: item " + i, n.cell(1, i, 0), -12);
        }
        Due.is("30: item 0", n.cell(1, 0, 0), 1);
        Due.is("30: item 2", n.cell(1, 2, MOST), 1);
    }

    /** Whether a strip comes from a sheet of a sort with 0, v, 0, and where it lies then. */
    private static int whereBy(int sort, int v) {
        NestsByKnots n = new NestsByKnots();
        n.sheet(0, sort, 3);
        n.cell(0, 1, v);
        return n.strips(0, sort, 0, 1) == 1 ? n.told(0, 1) : NestsByKnots.BAD;
    }

    private static void promise30Bits() {
        Due.is("30: byte 115", whereBy(0, 115), 115);
        Due.is("30: byte 256 + 115", whereBy(0, 256 + 115), 115);
        Due.is("30: byte 115 - 256", whereBy(0, 115 - 256), 115);
        Due.is("30: byte 203 is below 0", whereBy(0, 203), NestsByKnots.BAD);
        Due.is("30: byte 1203", whereBy(0, 1203), NestsByKnots.BAD);
        Due.is("30: byte 1025", whereBy(0, 1025), 1);
        Due.is("30: short 1203", whereBy(1, 1203), 1203);
        Due.is("30: short 65536 + 1203", whereBy(1, 65536 + 1203), 1203);
        Due.is("30: short 1203 - 65536", whereBy(1, 1203 - 65536), 1203);
        Due.is("30: short 2401", whereBy(1, 2401), 2401);
        Due.is("30: int 65536 + 1203", whereBy(2, 65536 + 1203), NestsByKnots.BAD);
        Due.is("30: int 256 + 115", whereBy(2, 256 + 115), NestsByKnots.BAD);
        Due.is("30: int 2401", whereBy(2, 2401), 2401);
    }

    /** A sheet of 12 ints: four strips with the numbers 1, 2, 3, 4 at the crossing 0. */
    private static NestsByKnots four() {
        NestsByKnots n = new NestsByKnots();
        n.sheet(0, 2, 12);
        for (int i = 0; i < 4; i++) {
            n.cell(0, 3 * i + 1, 1);
            n.cell(0, 3 * i + 2, i + 1);
        }
        return n;
    }

    private static void numbers(String what, NestsByKnots n, int sheet, int... numbers) {
        Due.is(what + ": how many", n.strips(sheet, 2, 0, numbers.length), numbers.length);
        for (int strip = 0; strip < numbers.length; strip++) {
            Due.is(what + ": number of " + strip, n.taken(strip, 0), numbers[strip]);
        }
    }

    private static void promise31() {
        NestsByKnots ahead = four();
        Due.is("31: over itself, back", ahead.copy(0, 3, 0, 0, 9), 9);
        numbers("31: over itself, back", ahead, 0, 2, 3, 4, 4);
        NestsByKnots behind = four();
        Due.is("31: over itself, on", behind.copy(0, 0, 0, 3, 9), 9);
        numbers("31: over itself, on", behind, 0, 1, 1, 2, 3);
        NestsByKnots other = four();
        other.sheet(3, 2, 6);
        Due.is("31: to another", other.copy(0, 6, 3, 0, 6), 6);
        numbers("31: to another", other, 3, 3, 4);
        Due.is("31: none", other.copy(0, 12, 3, 6, 0), 0);
        Due.is("31: the last alone", other.copy(0, 11, 3, 5, 1), 1);
        NestsByKnots from = four();
        from.copy(0, 3, 0, 0, 3);
        numbers("31: what it is from stays", from, 0, 2, 2, 3, 4);
    }

    private static void promise31Refusals() {
        NestsByKnots n = four();
        n.sheet(1, 1, 12);
        n.sheet(2, 2, 6);
        int[] sheets = {-1, 4, LEAST, MOST};
        for (int sheet : sheets) {
            Due.is("31: from sheet " + sheet, n.copy(sheet, 0, 3, 0, 1), NestsByKnots.BAD);
            Due.is("31: to sheet " + sheet, n.copy(3, 0, sheet, 0, 1), NestsByKnots.BAD);
        }
        Due.is("31: from nothing", n.copy(3, 0, 0, 0, -1), -11);
        Due.is("31: to nothing", n.copy(0, 0, 3, 0, -1), -11);
        Due.is("31: both nothing", n.copy(3, 0, 3, 0, 0), -11);
        Due.is("31: unlike sorts", n.copy(0, 0, 1, 0, 1), -13);
        Due.is("31: unlike ahead of outside", n.copy(0, 0, 1, 0, -1), -13);
        int[][] outside = {{-1, 0, 1}, {0, -1, 1}, {0, 0, -1}, {0, 0, 7}, {7, 0, 6}, {0, 1, 6}, {12, 0, 1},
            {13, 0, 0}, {0, 7, 0}, {LEAST, 0, 1}, {0, LEAST, 1}, {MOST, 0, 1}, {0, MOST, 1}, {0, 0, MOST},
            {1, 0, MOST}, {0, 1, MOST}, {MOST, MOST, MOST}, {0, 0, LEAST}, {-1, 0, 0}, {0, -1, 0}, {MOST, 0, 0}};
        for (int[] p : outside) {
            String call = "31: copy(0, " + p[0] + ", 2, " + p[1] + ", " + p[2] + ")";
            Due.is(call, n.copy(0, p[0], 2, p[1], p[2]), -12);
        }
        Due.is("31: to itself beyond", n.copy(0, 1, 0, 0, 12), -12);
        numbers("31: nothing changed", n, 0, 1, 2, 3, 4);
    }

    private static void promise32() {
        NestsByKnots n = four();
        Due.is("32: from the fourth on", n.strips(0, 2, 9, 1), 1);
        Due.is("32: its number", n.taken(0, 0), 4);
        n.cell(0, 0, 5);
        n.cell(0, 1, 1213);
        Due.is("32: the first", n.strips(0, 2, 0, 1), 1);
        Due.is("32: kind", n.told(1, 0), 5);
        Due.is("32: where", n.told(1, 1), 1213);
        Due.is("32: none", n.strips(0, 2, 0, 0), 0);
        int[] anywhere = {0, 12, 13, -1, LEAST, MOST};
        for (int from : anywhere) {
            Due.is("32: none asked is nowhere outside, from " + from, n.strips(0, 2, from, 0), 0);
        }
        n.cell(0, 4, 16);
        Due.is("32: others are left out", n.strips(0, 2, 3, 3), 2);
        Due.is("32: number 3", n.taken(2, 0), 3);
        Due.is("32: number 4", n.taken(3, 0), 4);
        NestsByKnots many = four();
        for (int i = 0; i < 13; i++) {
            many.lay(0, 1, 0);
        }
        many.cell(0, 5, 10);
        Due.is("32: three have room", many.strips(0, 2, 0, 4), 3);
        Due.is("32: no room", many.strips(0, 2, 0, 4), 0);
        Due.is("32: outside, though full", many.strips(0, 2, 0, 5), -12);
        NestsByKnots twelve = new NestsByKnots();
        twelve.sheet(0, 0, 40);
        for (int i = 0; i < 12; i++) {
            twelve.cell(0, 3 * i + 5, 1);
        }
        Due.is("32: twelve", twelve.strips(0, 0, 4, 12), 12);
        Due.is("32: twelve lie", twelve.count(0), 12);
    }

    private static void promise32Refusals() {
        NestsByKnots n = four();
        int[] sheets = {-1, 4, LEAST, MOST};
        for (int sheet : sheets) {
            Due.is("32: sheet " + sheet, n.strips(sheet, 2, 0, 1), NestsByKnots.BAD);
        }
        int[] sorts = {-2, -1, 3, LEAST, MOST};
        for (int sort : sorts) {
            Due.is("32: sort " + sort, n.strips(0, sort, 0, 1), NestsByKnots.BAD);
            Due.is("32: sort " + sort + " of nothing", n.strips(1, sort, 0, 1), NestsByKnots.BAD);
        }
        int[] times = {-1, 13, LEAST, MOST};
        for (int time : times) {
            Due.is("32: n " + time, n.strips(0, 2, 0, time), NestsByKnots.BAD);
            Due.is("32: n " + time + " of nothing", n.strips(1, 2, 0, time), NestsByKnots.BAD);
        }
        Due.is("32: shorts", n.strips(0, 1, 0, 1), -13);
        Due.is("32: bytes, ahead of outside", n.strips(0, 0, -1, 1), -13);
        Due.is("32: bytes, though none", n.strips(0, 0, 0, 0), -13);
        Due.is("32: nothing", n.strips(1, 0, 0, 0), -11);
        Due.is("32: nothing of any sort", n.strips(1, 2, -1, 1), -11);
        int[] outside = {-1, -3, 10, 11, 12, 13, LEAST, MOST, MOST - 2, LEAST + 2};
        for (int from : outside) {
            Due.is("32: from " + from, n.strips(0, 2, from, 1), -12);
        }
        Due.is("32: none came", n.count(0), 0);
        Due.is("32: outside at last", n.strips(0, 2, 2, 4), -12);
        Due.is("32: none came of those", n.count(0), 0);
        Due.is("32: outside behind two", n.strips(0, 2, 6, 3), -12);
        Due.is("32: what stood ahead came", n.count(0), 2);
        Due.is("32: number 3", n.taken(0, 0), 3);
    }

    private static void promise33() {
        NestsByKnots n = new NestsByKnots();
        for (int kind = 0; kind < 6; kind++) {
            n.lay(kind, 1, kind + 3);
        }
        String[] under = {"100000", "110000", "111000", "110100", "111010", "100001"};
        for (int strip = 0; strip < 6; strip++) {
            for (int k = 0; k < 6; k++) {
                int due = under[strip].charAt(k) == '1' ? strip + 3 : -13;
                Due.is("33: taken(" + strip + ", " + k + ")", n.taken(strip, k), due);
            }
        }
        int[] kinds = {-1, 6, LEAST, MOST};
        for (int k : kinds) {
            Due.is("33: k " + k, n.taken(0, k), NestsByKnots.BAD);
            Due.is("33: k " + k + " of none", n.taken(9, k), NestsByKnots.BAD);
        }
        int[] strips = {-1, 6, 15, 16, LEAST, MOST};
        for (int strip : strips) {
            Due.is("33: strip " + strip, n.taken(strip, 0), -11);
        }
        n.out(2);
        Due.is("33: taken out", n.taken(2, 0), -11);
    }
}
