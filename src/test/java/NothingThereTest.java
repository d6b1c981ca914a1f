/** Calls where there is nothing: no STRIP, an empty TAPE, a missing SHEET, a SHEET of 0 items, no IMAGE. */
public final class NothingThereTest {
    private static final int NONE = NestsByKnots.NONE, BAD = NestsByKnots.BAD, STATE = NestsByKnots.STATE;
    private static final int NO_SUCH = -5;
    private static final int NOTHING = -11, OUTSIDE = -12, UNLIKE = -13;

    public static void main(String[] args) {
        noStrips("new", NestsByKnots::new);
        noStrips("all out", NothingThereTest::allOut);
        noStrips("all pulled", NothingThereTest::allPulled);
        noStrips("all slipped", NothingThereTest::allSlipped);
        noStrips("back to none", NothingThereTest::backToNone);
        noStripsToCome();
        alikeAgain();
        aStripAlone();
        emptyTape();
        missingSheets();
        sheetsOfNone();
        noImage();
        Due.end("NothingThereTest");
    }

    private static NestsByKnots allOut() {
        NestsByKnots n = three();
        n.out(1);
        n.out(0);
        Due.is("3: none is there still", n.out(2), 0);
        return n;
    }

    private static NestsByKnots allPulled() {
        NestsByKnots n = three();
        Due.is("12: all of them", n.pulled(0, 999), 3);
        return n;
    }

    private static NestsByKnots allSlipped() {
        NestsByKnots n = new NestsByKnots();
        n.image();
        n.lay(5, 15, 0);
        n.lay(0, 2005, 9);
        n.hours(10);
        Due.is("25: all of them", n.slipped(), 2);
        // only the hour tells it from a new one
        Due.is("27: none", n.back(), 0);
        return n;
    }

    private static NestsByKnots backToNone() {
        NestsByKnots n = new NestsByKnots();
        Due.is("26: none", n.image(), 0);
        n.lay(0, 15, 4);
        n.hours(99);
        n.green(1);
        Due.is("27: none", n.back(), 0);
        return n;
    }

    private static NestsByKnots three() {
        NestsByKnots n = new NestsByKnots();
        n.lay(0, 15, 4);
        n.lay(4, 2005, 9);
        n.lay(2, 1202, 9);
        return n;
    }

    /** All that is asked of STRIPS, where none is. */
    private static void noStrips(String name, Scenes.Scene scene) {
        NestsByKnots n = scene.made();
        for (int strip = 0; strip < 16; strip++) {
            Due.is("3: out, " + name, n.out(strip), BAD);
            Due.is("33: taken, " + name, n.taken(strip, 0), NOTHING);
            for (int what = 0; what < 10; what++) {
                Due.is("6: told, " + name, n.told(strip, what), NO_SUCH);
            }
        }
        Due.is("13: falls, " + name, n.falls(), 0);
        Due.is("21: spare, " + name, n.spare(), 0);
        Due.is("22: brown, " + name, n.brown(0), 0);
        Due.is("22: brown at last, " + name, n.brown(999), 0);
        Due.is("23: holes, " + name, n.holes(), 0);
        Due.is("25: slipped, " + name, n.slipped(), 0);
        Due.is("19: takes, " + name, n.takes(), 0);
        Due.is("20: when, " + name, n.when(), STATE);
        int[] due = {0, 0, 48, 1, 0, 0, 0, 0};
        for (int what = 0; what < 8; what++) {
            Due.is("28: count(" + what + "), " + name, n.count(what), due[what]);
        }
        crossings(name, scene.made());
        places(name, scene.made());
    }

    private static void crossings(String name, NestsByKnots n) {
        for (int crossing = 0; crossing < 25; crossing++) {
            Due.is("7: at, " + name, n.at(crossing), 0);
            Due.is("11: what is taken out, " + name, n.pull(crossing, 999, 0), 0);
            Due.is("11: what comes out, " + name, n.pull(crossing, 999, 1), 0);
            Due.is("12: pulled, " + name, n.pulled(crossing, 999), 0);
            Due.is("14: least pull, " + name, n.least(crossing, 0), NONE);
            Due.is("14: left, " + name, n.least(crossing, 1), NONE);
        }
    }

    private static void places(String name, NestsByKnots n) {
        for (int many = 1; many <= 5; many++) {
            for (int where : Asked.places(many)) {
                Due.is("15: good(" + where + "), " + name, n.good(where), -(where / 500));
            }
            Due.is("16: next, " + name, n.next(many), many);
            Due.is("18: best, " + name, n.best(5, 0, many, 0), many);
            Due.is("18: its own hold, " + name, n.best(5, 0, many, 1), 0);
            Due.is("24: closes, " + name, n.closes(many, 0), NONE);
            Due.is("24: how many, " + name, n.closes(many, 1), NONE);
            Due.is("17: none built, " + name, n.build(many, 0), 0);
        }
        Due.is("26: image, " + name, n.image(), 0);
        Due.is("27: back, " + name, n.back(), 0);
        Due.is("2: the first, " + name, n.lay(0, 1, 0), 0);
    }

    /** What calls answer that would take something, or bring it, and there is nothing. */
    private static void noStripsToCome() {
        Refused.nothingChanges("12: none pulled", NestsByKnots::new, n -> n.pulled(0, 999));
        Refused.nothingChanges("25: none slipped", NestsByKnots::new, n -> n.slipped());
        Refused.nothingChanges("17: none built", NestsByKnots::new, n -> n.build(1, 0));
        Refused.by("3: none out", NestsByKnots::new, BAD, n -> n.out(0));
    }

    /** Nothing is left of what was there. */
    private static void alikeAgain() {
        Refused.alike("27: as a new one with an image", () -> {
            NestsByKnots n = new NestsByKnots();
            n.image();
            return n;
        }, NothingThereTest::backToNone);
        Refused.alike("3: as a new one", NestsByKnots::new, NothingThereTest::allOut);
        Refused.alike("12: as a new one", NestsByKnots::new, NothingThereTest::allPulled);
    }

    /** One STRIP: there is no other that it could cross or rub. */
    private static void aStripAlone() {
        int[] knots = {10, 12, 24, 12, 33, 5};
        for (int kind = 0; kind < 6; kind++) {
            NestsByKnots n = new NestsByKnots();
            n.lay(kind, 5, 9);
            Due.is("6: crosses none, kind " + kind, n.told(0, 6), 0);
            Due.is("6: rubs none, kind " + kind, n.told(0, 7), 0);
            Due.is("6: holds by its knot, kind " + kind, n.told(0, 8), knots[kind]);
            Due.is("14: one more than its hold, kind " + kind, n.least(4, 0), knots[kind] + 1);
            Due.is("14: none is left, kind " + kind, n.least(4, 1), 0);
            Due.is("14: none there, kind " + kind, n.least(5, 0), NONE);
            Due.is("21: nothing hangs by it, kind " + kind, n.spare(), 1);
            Due.is("11: not by its hold, kind " + kind, n.pull(0, knots[kind], 0), 0);
            Due.is("11: by one more, kind " + kind, n.pull(0, knots[kind] + 1, 0), 1);
        }
    }

    private static void emptyTape() {
        NestsByKnots n = new NestsByKnots();
        Due.is("28: no bytes", n.count(4), 0);
        Due.is("9: ends too early at 0", n.text(), -100);
        Due.is("9: no text came", n.count(3), 1);
        Due.is("9: once more", n.text(), -100);
        Due.is("9: a text", Due.text(n, "rub 0;next 0;take 0;"), 1);
        Due.is("9: the tape is empty behind a text", n.text(), -100);
        Due.is("9: a fault", Due.text(n, "rub ?"), -104);
        Due.is("9: the tape is empty behind a fault", n.text(), -100);
        Due.is("8: it begins anew", n.feed(1, 32), 1);
        Due.is("9: a blank alone", n.text(), -101);
        Due.is("9: still two", n.count(3), 2);
        Refused.by("9: an empty tape", NestsByKnots::new, -100, m -> m.text());
    }

    private static void missingSheets() {
        NestsByKnots n = new NestsByKnots();
        for (int sheet = 0; sheet < 4; sheet++) {
            int s = sheet;
            Refused.by("30: cell of missing " + sheet, NestsByKnots::new, NOTHING, m -> m.cell(s, 0, 1));
            Refused.by("31: copy of missing " + sheet, NestsByKnots::new, NOTHING, m -> m.copy(s, 0, s, 0, 0));
            for (int sort = 0; sort < 3; sort++) {
                int t = sort;
                Refused.by("32: strips of missing " + sheet, NestsByKnots::new, NOTHING, m -> m.strips(s, t, 0, 0));
            }
            n.sheet(sheet, 2, 40);
            Due.is("29: there", n.cell(sheet, 39, 7), 1);
            Due.is("29: missing again", n.sheet(sheet, -1, 40), 1);
            Due.is("30: nothing", n.cell(sheet, 39, 7), NOTHING);
            Due.is("29: missing already", n.sheet(sheet, -1, 40), 1);
        }
        Refused.alike("29: as a new one", NestsByKnots::new, () -> {
            NestsByKnots m = new NestsByKnots();
            for (int sheet = 0; sheet < 4; sheet++) {
                m.sheet(sheet, sheet % 3, 40);
                Scenes.three(m, sheet, 0, 0, 5, 7);
                m.sheet(sheet, -1, 0);
            }
            return m;
        });
        n.sheet(0, 0, 6);
        Scenes.three(n, 0, 0, 0, 5, 7);
        n.sheet(0, -1, 6);
        n.sheet(0, 0, 6);
        Due.is("29: all 0 when it is there again", n.strips(0, 0, 0, 2), 0);
    }

    private static void sheetsOfNone() {
        for (int sort = 0; sort < 3; sort++) {
            NestsByKnots n = new NestsByKnots();
            Due.is("29: of 0 items", n.sheet(0, sort, 0), 1);
            Due.is("29: another", n.sheet(1, sort, 0), 1);
            Due.is("29: of one", n.sheet(2, sort, 1), 1);
            Due.is("29: of another sort", n.sheet(3, (sort + 1) % 3, 0), 1);
            Due.is("30: no item 0", n.cell(0, 0, 1), OUTSIDE);
            Due.is("31: none of none", n.copy(0, 0, 1, 0, 0), 0);
            Due.is("31: none of one to none", n.copy(2, 0, 0, 0, 0), 0);
            Due.is("31: none from behind the one", n.copy(2, 1, 0, 0, 0), 0);
            Due.is("31: one of none", n.copy(0, 0, 2, 0, 1), OUTSIDE);
            Due.is("31: one to none", n.copy(2, 0, 0, 0, 1), OUTSIDE);
            Due.is("31: from beyond none", n.copy(0, 1, 1, 0, 0), OUTSIDE);
            Due.is("31: to beyond none", n.copy(0, 0, 1, 1, 0), OUTSIDE);
            Due.is("31: unlike, though none", n.copy(0, 0, 3, 0, 0), UNLIKE);
            Due.is("32: none of none", n.strips(0, sort, 0, 0), 0);
            Due.is("32: one of none", n.strips(0, sort, 0, 1), OUTSIDE);
            Due.is("32: one of one", n.strips(2, sort, 0, 1), OUTSIDE);
            Due.is("32: another sort, though none", n.strips(0, (sort + 1) % 3, 0, 0), UNLIKE);
            Due.is("32: none came", n.count(0), 0);
        }
    }

    private static void noImage() {
        Refused.by("27: there is none", NestsByKnots::new, STATE, n -> n.back());
        NestsByKnots n = new NestsByKnots();
        n.lay(0, 1, 0);
        Due.is("27: none, though a strip lies", n.back(), STATE);
        Due.is("27: it lies still", n.at(0), 1);
        Due.is("26: one", n.image(), 1);
        Due.is("27: now there is", n.back(), 1);
        Due.is("27: and still", n.back(), 1);
    }
}
