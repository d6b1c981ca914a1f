/**
 * Which refusal is told where two could be: the first that the call's words name. What FULL, STATE, NONE and
 * a FAULT change, and what the calls change that ask "as if": nothing.
 */
public final class RefusedTest {
    private static final int NONE = NestsByKnots.NONE, BAD = NestsByKnots.BAD, STATE = NestsByKnots.STATE,
        FULL = NestsByKnots.FULL;
    private static final int NOTHING = -11, OUTSIDE = -12, UNLIKE = -13, BELOW_ZERO = -14;

    public static void main(String[] args) {
        badAheadOfFull();
        badAheadOfNone();
        badAheadOfTheHosts();
        theHostsOrder();
        full();
        stateAndNone();
        fault();
        asIf();
        asIfOfAll();
        Due.end("RefusedTest");
    }

    private static void badAheadOfFull() {
        Refused.by("2: kind, no room", Scenes::full, BAD, n -> n.lay(6, 1, 0));
        Refused.by("2: where, no room", Scenes::full, BAD, n -> n.lay(0, 6, 0));
        Refused.by("2: number, no room", Scenes::full, BAD, n -> n.lay(0, 1, 10));
        Refused.by("4: 0 hours at the last", Scenes::full, BAD, n -> n.hours(0));
        Refused.by("4: 100 hours at the last", Scenes::full, BAD, n -> n.hours(100));
        Refused.by("8: n 0, no room", Scenes::full, BAD, n -> n.feed(0, 32));
        Refused.by("8: n 9, no room", Scenes::full, BAD, n -> n.feed(9, 32));
        Refused.by("18: kind, no room", Scenes::full, BAD, n -> n.best(6, 0, 1, 0));
        Refused.by("18: number, no room", Scenes::full, BAD, n -> n.best(0, 10, 1, 0));
        Refused.by("18: long, no room", Scenes::full, BAD, n -> n.best(0, 0, 6, 0));
        Refused.by("18: what, no room", Scenes::full, BAD, n -> n.best(0, 0, 1, 2));
        Refused.by("17: long, no room", Scenes::full, BAD, n -> n.build(6, 1));
        Refused.by("17: n, no room", Scenes::full, BAD, n -> n.build(1, 9));
    }

    private static void badAheadOfNone() {
        Refused.by("14: crossing, none there", NestsByKnots::new, BAD, n -> n.least(25, 0));
        Refused.by("14: what, none there", NestsByKnots::new, BAD, n -> n.least(0, 2));
        Refused.by("24: long, no holes", NestsByKnots::new, BAD, n -> n.closes(6, 0));
        Refused.by("24: what, no holes", NestsByKnots::new, BAD, n -> n.closes(1, 2));
    }

    private static void badAheadOfTheHosts() {
        Refused.everywhere("29: sheet, n -1", BAD, n -> n.sheet(4, 0, -1));
        Refused.everywhere("29: sort, n -1", BAD, n -> n.sheet(0, 3, -1));
        Refused.by("30: sheet, item outside", NestsByKnots::new, BAD, n -> n.cell(4, -1, 0));
        Refused.by("31: sheet, the other missing", NestsByKnots::new, BAD, n -> n.copy(4, 0, 0, 0, -1));
        Refused.by("31: the other, the one missing", NestsByKnots::new, BAD, n -> n.copy(0, 0, 4, 0, -1));
        Refused.by("32: sheet, outside", NestsByKnots::new, BAD, n -> n.strips(4, 0, -1, 1));
        Refused.by("32: sort, of a missing one", NestsByKnots::new, BAD, n -> n.strips(0, 3, -1, 1));
        Refused.by("32: n, of a missing one", NestsByKnots::new, BAD, n -> n.strips(0, 0, -1, 13));
        Refused.by("32: sort, outside", Scenes::some, BAD, n -> n.strips(0, -1, -1, 1));
        Refused.by("32: n, of another sort, outside", Scenes::some, BAD, n -> n.strips(0, 1, -1, 13));
        Refused.by("32: n -1, outside", Scenes::some, BAD, n -> n.strips(0, 0, -1, -1));
        Refused.by("33: k, no such strip", NestsByKnots::new, BAD, n -> n.taken(0, 6));
        Refused.by("33: k, a strip that is no number", NestsByKnots::new, BAD, n -> n.taken(16, -1));
    }

    private static void theHostsOrder() {
        Refused.by("30: missing, and outside", Scenes::some, NOTHING, n -> n.cell(3, -1, 0));
        Refused.by("31: the one missing, and outside", Scenes::some, NOTHING, n -> n.copy(3, -1, 0, 0, 1));
        Refused.by("31: the other missing, and outside", Scenes::some, NOTHING, n -> n.copy(0, 0, 3, -1, 1));
        Refused.by("31: the other missing, n -1", Scenes::some, NOTHING, n -> n.copy(0, 0, 3, 0, -1));
        Refused.by("31: unlike, and from outside", Scenes::some, UNLIKE, n -> n.copy(0, 12, 1, 0, 1));
        Refused.by("31: unlike, and to outside", Scenes::some, UNLIKE, n -> n.copy(0, 0, 1, 9, 1));
        Refused.by("31: unlike, n -1", Scenes::some, UNLIKE, n -> n.copy(0, 0, 1, 0, -1));
        Refused.by("32: unlike, and outside", Scenes::some, UNLIKE, n -> n.strips(0, 1, 12, 1));
        Refused.by("32: missing, and outside", Scenes::some, NOTHING, n -> n.strips(3, 2, -1, 1));
        Refused.by("32: outside, though all is full", Scenes::full, OUTSIDE, n -> n.strips(0, 0, 38, 1));
        Refused.by("29: n -1", Scenes::full, BELOW_ZERO, n -> n.sheet(0, 0, -1));
    }

    private static void full() {
        Refused.by("2: a seventeenth strip", Scenes::full, FULL, n -> n.lay(0, 1, 0));
        Refused.by("4: beyond 9999", Scenes::full, FULL, n -> n.hours(1));
        Refused.by("8: a byte more", Scenes::full, FULL, n -> n.feed(1, 32));
        Refused.by("9: a seventh text", Scenes::full, FULL, n -> n.text());
        Refused.by("18: no room", Scenes::full, FULL, n -> n.best(0, 0, 1, 0));
        Refused.by("17: none has room", Scenes::full, 0, n -> n.build(1, 8));
        Refused.by("32: none has room", Scenes::full, 0, n -> n.strips(0, 0, 0, 12));
    }

    private static void stateAndNone() {
        Refused.by("27: no image", NestsByKnots::new, STATE, n -> n.back());
        Refused.by("20: not now", NestsByKnots::new, STATE, n -> n.when());
        Refused.by("20: not within 200 hours", Scenes::full, NONE, n -> n.when());
        Refused.by("14: none there", Scenes::some, NONE, n -> n.least(5, 0));
        Refused.by("24: no holes", Scenes::full, NONE, n -> n.closes(5, 0));
        // she does not now, but in each of the 200 hours: a refusal is told ahead of what WHEN would be
        NestsByKnots n = Due.ruled("rub 0;next 0;take 0<age;");
        Due.is("20: not now, but then", n.when(), STATE);
        n.hours(1);
        Due.is("20: now, and then", n.when(), NONE);
    }

    /** A FAULT empties the tape, and does no more. */
    private static void fault() {
        String[] texts = {"rub", "rub 7;next 7;take 7", "rub 7;next 7;take 7;;", "rub 7;next 7;take ((((((7))))));", "?"};
        int[] places = {3, 19, 20, 23, 0};
        for (int i = 0; i < texts.length; i++) {
            String text = texts[i];
            Due.is("9: " + text, Due.text(new NestsByKnots(), text), -100 - places[i]);
            Refused.alike("9: \"" + text + "\" leaves a new one", NestsByKnots::new, () -> fed(new NestsByKnots(), text));
            Refused.alike("9: \"" + text + "\" leaves a used one", () -> fed(Scenes.some(), ""), () -> {
                NestsByKnots n = Scenes.some();
                n.text();
                return fed(n, text);
            });
        }
    }

    private static NestsByKnots fed(NestsByKnots n, String text) {
        Due.text(n, text);
        return n;
    }

    /** Nothing is taken out or laid but where it is told. */
    private static void asIf() {
        Refused.nothingChanges("6: told", Scenes::some, n -> n.told(0, 8));
        Refused.nothingChanges("7: at", Scenes::some, n -> n.at(0));
        Refused.nothingChanges("11: pull", Scenes::some, n -> n.pull(0, 999, 0));
        Refused.nothingChanges("11: pull and what falls", Scenes::some, n -> n.pull(0, 999, 1));
        Refused.nothingChanges("13: falls", Scenes::some, n -> n.falls());
        Refused.nothingChanges("14: least", Scenes::some, n -> n.least(0, 0));
        Refused.nothingChanges("14: left", Scenes::some, n -> n.least(0, 1));
        Refused.nothingChanges("15: good", Scenes::some, n -> n.good(15));
        Refused.nothingChanges("16: next", Scenes::some, n -> n.next(5));
        Refused.nothingChanges("17: none built", Scenes::some, n -> n.build(5, 0));
        Refused.nothingChanges("18: best", Scenes::some, n -> n.best(4, 9, 5, 0));
        Refused.nothingChanges("18: best, the hold", Scenes::some, n -> n.best(5, 0, 1, 1));
        Refused.nothingChanges("19: takes", Scenes::some, n -> n.takes());
        Refused.nothingChanges("20: when", Scenes::some, n -> n.when());
        Refused.nothingChanges("21: spare", Scenes::some, n -> n.spare());
        Refused.nothingChanges("22: brown", Scenes::some, n -> n.brown(999));
        Refused.nothingChanges("23: holes", Scenes::some, n -> n.holes());
        Refused.nothingChanges("24: closes", Scenes::some, n -> n.closes(5, 1));
        Refused.nothingChanges("28: count", Scenes::some, n -> n.count(0));
        Refused.nothingChanges("33: taken", Scenes::some, n -> n.taken(4, 0));
    }

    private static void asIfOfAll() {
        Refused.nothingChanges("11: pull of all", Scenes::full, n -> n.pull(0, 999, 1));
        Refused.nothingChanges("12: nothing comes out", Scenes::full, n -> n.pulled(0, 1));
        Refused.nothingChanges("14: least of all", Scenes::full, n -> n.least(0, 0));
        Refused.nothingChanges("21: spare of all", Scenes::full, n -> n.spare());
        Refused.nothingChanges("20: when at the last hour", Scenes::full, n -> n.when());
        Refused.nothingChanges("22: brown beyond the last hour", Scenes::full, n -> n.brown(999));
        Refused.nothingChanges("10: the rule that is", Scenes::full, n -> n.force(5));
        Refused.nothingChanges("5: green as it is", Scenes::full, n -> n.green(99));
        Refused.nothingChanges("31: none copied", Scenes::full, n -> n.copy(0, 40, 0, 40, 0));
        Refused.nothingChanges("32: none laid", Scenes::full, n -> n.strips(0, 0, 0, 0));
    }
}
