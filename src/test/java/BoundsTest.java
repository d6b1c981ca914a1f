/**
 * Of each number that a call is given: the last that is still taken and the first that is not, on both
 * sides. What is refused changes nothing.
 */
public final class BoundsTest {
    private static final int BAD = NestsByKnots.BAD;
    private static final int NO_SUCH = -5;
    private static final int NOTHING = -11;
    private static final int OUTSIDE = -12;
    private static final int MOST_IN_ALL = 40;
    private static final int[] NO_SHEETS = {-1, 4, Integer.MIN_VALUE, Integer.MAX_VALUE};
    private static final int[] FITTING = {1, 5, 11, 15, 104, 114, 401, 415, 914, 2001, 2005, 2401, 2411};
    // no crossing, no way, a long of 0 or too long, beyond the net to the right and below, and below 0
    private static final int[] NOT_FITTING = {-1, 0, 6, 9, 10, 16, 20, 21, 25, 91, 99, 100, 105, 402, 905, 915, 1014,
        2006, 2012, 2015, 2400, 2402, 2406, 2410, 2412, 2421, 2491, 2500, 2501, 2511, 10001, -5, -11, -95, -99, -100, -101,
        -2401, Integer.MIN_VALUE, Integer.MIN_VALUE + 1, Integer.MAX_VALUE};

    private interface Call {
        long on(NestsByKnots n, int v);
    }

    public static void main(String[] args) {
        stripsAndHours();
        places();
        texts();
        pulls();
        comesNext();
        sheAndHoles();
        sheets();
        copies();
        stripsOfSheets();
        stripsTaken();
        Due.end("BoundsTest");
    }

    /** From low to high a number is taken in a scene; below and above it is BAD whatever the object holds. */
    private static void bad(String what, Scenes.Scene scene, int low, int high, Call call) {
        taken(what, scene, low, high, call);
        int[] beyond = {low - 1, high + 1, Integer.MIN_VALUE, Integer.MAX_VALUE};
        for (int v : beyond) {
            Refused.everywhere(what + " " + v, BAD, n -> call.on(n, v));
        }
    }

    /** From low to high a number is taken in a scene; below and above the call is refused there. */
    private static void refused(String what, Scenes.Scene scene, int low, int high, long refusal, Call call) {
        taken(what, scene, low, high, call);
        int[] beyond = {low - 1, high + 1, Integer.MIN_VALUE, Integer.MAX_VALUE};
        for (int v : beyond) {
            Refused.by(what + " " + v, scene, refusal, n -> call.on(n, v));
        }
    }

    private static void taken(String what, Scenes.Scene scene, int low, int high, Call call) {
        for (int v = low; v <= high; v++) {
            if (v - low < MOST_IN_ALL || v == high) {
                long answer = call.on(scene.made(), v);
                // NONE is an answer, too; all that is less is a refusal
                Due.is(what + " " + v + " is taken, and answered by " + answer, answer >= NestsByKnots.NONE ? 1 : 0, 1);
            }
        }
    }

    private static void stripsAndHours() {
        bad("2: kind", Scenes::some, 0, 5, (n, v) -> n.lay(v, 1, 0));
        bad("2: number", Scenes::some, 0, 9, (n, v) -> n.lay(0, 1, v));
        refused("3: strip", Scenes::full, 0, 15, BAD, (n, v) -> n.out(v));
        Refused.by("3: one that has come out", Scenes::some, BAD, n -> n.out(1));
        Refused.by("3: one behind the last", Scenes::some, BAD, n -> n.out(8));
        bad("4: hours", Scenes::some, 1, 99, (n, v) -> n.hours(v));
        bad("5: green", Scenes::some, 1, 99, (n, v) -> n.green(v));
        for (int what = 0; what < 10; what++) {
            int w = what;
            refused("6: what " + what + " of strip", Scenes::full, 0, 15, NO_SUCH, (n, v) -> n.told(v, w));
        }
        refused("6: what", Scenes::full, 0, 9, NO_SUCH, (n, v) -> n.told(0, v));
        Refused.by("6: of one that has come out", Scenes::some, NO_SUCH, n -> n.told(1, 0));
        Refused.by("6: of one behind the last", Scenes::some, NO_SUCH, n -> n.told(8, 0));
        bad("7: crossing", Scenes::some, 0, 24, (n, v) -> n.at(v));
    }

    private static void places() {
        for (int where : FITTING) {
            Due.is("2: where " + where + " fits", Scenes.some().lay(0, where, 0), 1);
            Due.is("15: where " + where + " fits", Scenes.some().good(where) == NestsByKnots.NO ? 1 : 0, 0);
        }
        for (int where : NOT_FITTING) {
            Refused.everywhere("2: where " + where, BAD, n -> n.lay(0, where, 0));
            Refused.everywhere("15: where " + where, NestsByKnots.NO, n -> n.good(where));
        }
    }

    private static void texts() {
        bad("8: n", Scenes::some, 1, 8, (n, v) -> n.feed(v, 0));
        refused("10: text of one", NestsByKnots::new, 0, 0, BAD, (n, v) -> n.force(v));
        refused("10: text of two", Scenes::some, 0, 1, BAD, (n, v) -> n.force(v));
        refused("10: text of six", Scenes::full, 0, 5, BAD, (n, v) -> n.force(v));
    }

    private static void pulls() {
        bad("11: crossing", Scenes::some, 0, 24, (n, v) -> n.pull(v, 1, 0));
        bad("11: strong", Scenes::some, 1, 999, (n, v) -> n.pull(0, v, 0));
        bad("11: what", Scenes::some, 0, 1, (n, v) -> n.pull(0, 1, v));
        bad("12: crossing", Scenes::some, 0, 24, (n, v) -> n.pulled(v, 1));
        bad("12: strong", Scenes::some, 1, 999, (n, v) -> n.pulled(0, v));
        bad("14: crossing", Scenes::some, 0, 24, (n, v) -> n.least(v, 0));
        bad("14: crossing, LEFT", Scenes::some, 0, 24, (n, v) -> n.least(v, 1));
        bad("14: what", Scenes::some, 0, 1, (n, v) -> n.least(0, v));
        bad("14: what, where nothing lies", Scenes::some, 0, 1, (n, v) -> n.least(5, v));
    }

    private static void comesNext() {
        bad("16: long", Scenes::some, 1, 5, (n, v) -> n.next(v));
        bad("17: long", Scenes::some, 1, 5, (n, v) -> n.build(v, 1));
        bad("17: long, none of them", Scenes::some, 1, 5, (n, v) -> n.build(v, 0));
        bad("17: n", Scenes::some, 0, 8, (n, v) -> n.build(1, v));
        bad("18: kind", Scenes::some, 0, 5, (n, v) -> n.best(v, 0, 1, 0));
        bad("18: number", Scenes::some, 0, 9, (n, v) -> n.best(0, v, 1, 0));
        bad("18: long", Scenes::some, 1, 5, (n, v) -> n.best(0, 0, v, 0));
        bad("18: what", Scenes::some, 0, 1, (n, v) -> n.best(0, 0, 1, v));
    }

    private static void sheAndHoles() {
        bad("22: later", Scenes::some, 0, 999, (n, v) -> n.brown(v));
        bad("24: long", Scenes::some, 1, 5, (n, v) -> n.closes(v, 0));
        bad("24: what", Scenes::some, 0, 1, (n, v) -> n.closes(1, v));
        bad("28: what", Scenes::some, 0, 7, (n, v) -> n.count(v));
    }

    private static void sheets() {
        bad("29: sheet", Scenes::some, 0, 3, (n, v) -> n.sheet(v, 0, 1));
        bad("29: sheet, to be missing", Scenes::some, 0, 3, (n, v) -> n.sheet(v, -1, 1));
        bad("29: sort", Scenes::some, -1, 2, (n, v) -> n.sheet(0, v, 1));
        for (int sort = 0; sort < 3; sort++) {
            int s = sort;
            taken("29: n of sort " + sort, Scenes::some, 0, 40, (n, v) -> n.sheet(0, s, v));
            Refused.everywhere("29: n 41 of sort " + sort, BAD, n -> n.sheet(0, s, 41));
            Refused.everywhere("29: most n of sort " + sort, BAD, n -> n.sheet(0, s, Integer.MAX_VALUE));
            Refused.everywhere("29: n -1 of sort " + sort, -14, n -> n.sheet(0, s, -1));
            Refused.everywhere("29: least n of sort " + sort, -14, n -> n.sheet(0, s, Integer.MIN_VALUE));
        }
        taken("30: sheet", Scenes::full, 0, 2, (n, v) -> n.cell(v, 0, 0));
        for (int sheet : NO_SHEETS) {
            Refused.everywhere("30: sheet " + sheet, BAD, n -> n.cell(sheet, 0, 1));
        }
        refused("30: item of 12 bytes", Scenes::some, 0, 11, OUTSIDE, (n, v) -> n.cell(0, v, 1));
        refused("30: item of 9 shorts", Scenes::some, 0, 8, OUTSIDE, (n, v) -> n.cell(1, v, 1));
        refused("30: item of 6 ints", Scenes::some, 0, 5, OUTSIDE, (n, v) -> n.cell(2, v, 1));
        refused("30: item of 40 bytes", Scenes::full, 0, 39, OUTSIDE, (n, v) -> n.cell(0, v, 1));
        refused("30: item of none", Scenes::full, 0, -1, OUTSIDE, (n, v) -> n.cell(3, v, 1));
        Refused.by("30: a missing sheet", Scenes::some, NOTHING, n -> n.cell(3, 0, 1));
    }

    private static void copies() {
        bad("31: sheet to itself", Scenes::full, 0, 3, (n, v) -> n.copy(v, 0, v, 0, 0));
        for (int sheet : NO_SHEETS) {
            Refused.everywhere("31: from sheet " + sheet, BAD, n -> n.copy(sheet, 0, 0, 3, 3));
            Refused.everywhere("31: to sheet " + sheet, BAD, n -> n.copy(0, 0, sheet, 3, 3));
        }
        refused("31: from item", Scenes::some, 0, 9, OUTSIDE, (n, v) -> n.copy(0, v, 0, 6, 3));
        refused("31: to item", Scenes::some, 0, 9, OUTSIDE, (n, v) -> n.copy(0, 0, 0, v, 3));
        refused("31: n, as far as it is from", Scenes::some, 0, 6, OUTSIDE, (n, v) -> n.copy(0, 6, 0, 0, v));
        refused("31: n, as far as it comes to", Scenes::some, 0, 6, OUTSIDE, (n, v) -> n.copy(0, 0, 0, 6, v));
        refused("31: n, all of it", Scenes::some, 0, 12, OUTSIDE, (n, v) -> n.copy(0, 0, 0, 0, v));
        refused("31: from item, none of them", Scenes::some, 0, 12, OUTSIDE, (n, v) -> n.copy(0, v, 0, 0, 0));
        refused("31: to item, none of them", Scenes::some, 0, 12, OUTSIDE, (n, v) -> n.copy(0, 0, 0, v, 0));
        refused("31: n of a sheet of 0 items", Scenes::full, 0, 0, OUTSIDE, (n, v) -> n.copy(3, 0, 2, 0, v));
        refused("31: n to a sheet of 0 items", Scenes::full, 0, 0, OUTSIDE, (n, v) -> n.copy(2, 0, 3, 0, v));
        Refused.by("31: from a missing sheet", Scenes::some, NOTHING, n -> n.copy(3, 0, 0, 0, 1));
        Refused.by("31: to a missing sheet", Scenes::some, NOTHING, n -> n.copy(0, 0, 3, 0, 1));
        for (int from = 0; from < 3; from++) {
            for (int to = 0; to < 3; to++) {
                int f = from;
                int t = to;
                if (from == to) {
                    Due.is("31: like sorts " + from, Scenes.some().copy(f, 0, t, 3, 3), 3);
                } else {
                    Refused.by("31: unlike sorts " + from + ", " + to, Scenes::some, -13, n -> n.copy(f, 0, t, 3, 3));
                }
            }
        }
    }

    private static void stripsOfSheets() {
        bad("32: sheet", Scenes::full, 0, 3, (n, v) -> n.strips(v, Math.min(v, 2), 0, 0));
        taken("32: sort", Scenes::some, 0, 2, (n, v) -> n.strips(v, v, 0, 1));
        int[] noSorts = {-2, -1, 3, Integer.MIN_VALUE, Integer.MAX_VALUE};
        for (int sort : noSorts) {
            Refused.everywhere("32: sort " + sort, BAD, n -> n.strips(0, sort, 0, 1));
        }
        bad("32: n", Scenes::full, 0, 12, (n, v) -> n.strips(0, 0, 4, v));
        refused("32: from", Scenes::some, 0, 9, OUTSIDE, (n, v) -> n.strips(0, 0, v, 1));
        refused("32: from, of 9", Scenes::some, 0, 6, OUTSIDE, (n, v) -> n.strips(1, 1, v, 1));
        refused("32: from, of none", Scenes::full, 0, -1, OUTSIDE, (n, v) -> n.strips(3, 2, v, 1));
        Refused.by("32: a missing sheet", Scenes::some, NOTHING, n -> n.strips(3, 0, 0, 1));
        for (int sheet = 0; sheet < 3; sheet++) {
            for (int sort = 0; sort < 3; sort++) {
                int s = sheet;
                int t = sort;
                if (sheet == sort) {
                    Due.is("32: sort " + sort, Scenes.some().strips(s, t, 0, 2), 2);
                } else {
                    Refused.by("32: sort " + sort + " of " + sheet, Scenes::some, -13, n -> n.strips(s, t, 0, 2));
                }
            }
        }
    }

    private static void stripsTaken() {
        // the strips 0 .. 5 of the full one are of these kinds
        bad("33: k", Scenes::full, 0, 5, (n, v) -> n.taken(v, v));
        refused("33: strip", Scenes::full, 0, 15, NOTHING, (n, v) -> n.taken(v, 0));
        Refused.by("33: one that has come out", Scenes::some, NOTHING, n -> n.taken(1, 0));
        Refused.by("33: one behind the last", Scenes::some, NOTHING, n -> n.taken(8, 0));
        Refused.by("33: a loop is no hitch", Scenes::some, -13, n -> n.taken(2, 2));
    }
}
