/** Calls where all is full: 16 STRIPS, 160 bytes, 6 TEXTS, HOUR 9999, a SHEET of 40. */
public final class AllFullTest {
    private static final int BAD = NestsByKnots.BAD, FULL = NestsByKnots.FULL, NONE = NestsByKnots.NONE;
    private static final int ALL = 65535;
    private static final long BLANKS = 0x2020202020202020L;

    public static void main(String[] args) {
        theSixteenth();
        oneFree();
        twelveOfASheet();
        sixteenInAChain();
        sixteenInARow();
        sixteenCovering();
        fullBytes();
        textsOf160();
        sixTexts();
        lastHour();
        beyondTheLastHour();
        fullSheets();
        imageOfAll();
        theLastCalls();
        Due.end("AllFullTest");
    }

    private static NestsByKnots with(int strips) {
        NestsByKnots n = new NestsByKnots();
        for (int i = 0; i < strips; i++) {
            n.lay(i % 6, 5, i % 10);
        }
        return n;
    }

    private static void theSixteenth() {
        NestsByKnots n = with(15);
        Due.is("2: the sixteenth has room", n.lay(5, 2401, 9), 15);
        Due.is("2: the seventeenth has none", n.lay(5, 2401, 9), FULL);
        Due.is("28: sixteen", n.count(0), 16);
        Due.is("7: all but one", n.at(0), ALL - (1 << 15));
        Due.is("7: the one", n.at(24), 1 << 15);
        Due.is("6: where the last one lies", n.told(15, 1), 2401);
        Due.is("33: its number", n.taken(15, 5), 9);
        Due.is("13: it falls", n.falls(), 1 << 15);
        Due.is("3: it comes out", n.out(15), 15);
        Due.is("2: and has room again", n.lay(0, 1, 0), 15);
    }

    private static void oneFree() {
        for (int free = 0; free < 16; free++) {
            NestsByKnots n = with(16);
            Due.is("3: fifteen still", n.out(free), 15);
            Due.is("18: one more would have room", n.best(0, 0, 1, 0) == FULL ? 1 : 0, 0);
            Due.is("17: one of eight has room", n.build(1, 8), 1);
            Due.is("17: it is the free one", n.told(free, 0), 0);
            Due.is("17: no more", n.build(1, 8), 0);
            Due.is("18: no more", n.best(0, 0, 1, 0), FULL);
            n.out(free);
            n.sheet(0, 0, 6);
            Scenes.three(n, 0, 0, 3, 14, 8);
            Scenes.three(n, 0, 3, 2, 13, 7);
            Due.is("32: one of two has room", n.strips(0, 0, 0, 2), 1);
            Due.is("32: the first of them", n.told(free, 1), 14);
            Due.is("32: no more", n.strips(0, 0, 0, 2), 0);
            Due.is("2: no more", n.lay(0, 1, 0), FULL);
            n.out(free);
            Due.is("2: the free one", n.lay(4, 115, 3), free);
        }
    }

    private static void twelveOfASheet() {
        NestsByKnots n = with(5);
        n.sheet(0, 0, 40);
        for (int item = 4; item < 40; item += 3) {
            Scenes.three(n, 0, item, 1, 4, item / 4);
        }
        // the last of the twelve ends with the last item
        Due.is("32: eleven of twelve have room", n.strips(0, 0, 4, 12), 11);
        Due.is("32: sixteen", n.count(0), 16);
        Due.is("32: the last that came", n.taken(15, 1), 34 / 4);
        Due.is("32: outside behind those that have no room", n.strips(0, 0, 7, 12), -12);
    }

    private static NestsByKnots chain() {
        NestsByKnots n = new NestsByKnots();
        for (int strip = 15; strip >= 0; strip--) {
            n.lay(0, Scenes.chained(strip), 0);
        }
        return n;
    }

    private static void sixteenInAChain() {
        // strip 15 is on the twig, each other one hangs by the next
        NestsByKnots n = chain();
        Due.is("13: none falls", n.falls(), 0);
        Due.is("21: the last one", n.spare(), 1);
        Due.is("14: none is left without the first", n.least(0, 1), 0);
        Due.is("14: all but the last are left", n.least(24, 1), 15);
        Due.is("11: the first", n.pull(0, 999, 0), 1 << 15);
        Due.is("11: all come out", n.pull(0, 999, 1), ALL);
        Due.is("11: in the middle", n.pull(12, 999, 1), 511);
        n.out(15);
        Due.is("13: fifteen fall", n.falls(), ALL >> 1);
        Due.is("21: of what falls none falls anew", n.spare(), ALL >> 1);
        Due.is("14: of those none is left", n.least(24, 1), 0);
        Due.is("2: hung again", n.lay(0, 11, 0), 15);
        Due.is("13: beside it", n.falls(), ALL >> 1);
        n.out(15);
        n.lay(0, 12, 0);
        Due.is("12: all sixteen", n.pulled(0, 999), 16);
        Due.is("28: none is there", n.count(0), 0);
        NestsByKnots slip = chain();
        slip.out(15);
        slip.lay(5, 12, 0);
        slip.hours(10);
        Due.is("25: one slips, and fifteen fall", slip.slipped(), 16);
    }

    private static void sixteenInARow() {
        int[] ties = {1, 2, 2, 2, 4, 1};
        NestsByKnots n = with(16);
        for (int strip = 0; strip < 16; strip++) {
            Due.is("6: crosses fifteen at each of five", n.told(strip, 6), 75);
            Due.is("6: rubs no more than its ties", n.told(strip, 7), 5 * ties[strip % 6]);
            Due.is("6: holds by them", n.told(strip, 8), n.told(strip, 3) + 15 * ties[strip % 6]);
        }
        Due.is("15: one more would cross sixteen at each of five", n.good(5), 160);
        Due.is("16: still", n.next(5), 5);
        Due.is("21: none hangs by another", n.spare(), ALL);
        Due.is("22: none is brown", n.brown(47), 0);
        Due.is("22: all are", n.brown(48), ALL);
        Due.is("28: all are green", n.count(6), 16);
        Due.is("11: all come out", n.pull(4, 999, 0), ALL);
        Due.is("14: none is left", n.least(4, 1), 0);
        // the strongest: 6 + 3 * 9, and 99 times 4 at each of 5
        NestsByKnots strong = Due.ruled("rub 100;next 0;take 0;");
        for (int strip = 0; strip < 16; strip++) {
            strong.lay(4, 5, 9);
        }
        Due.is("6: the greatest hold", strong.told(15, 8), 33 + 99 * 20);
        Due.is("11: none comes out by 999", strong.pull(0, 999, 0), 0);
        Due.is("14: one more than the greatest hold", strong.least(0, 0), 33 + 99 * 20 + 1);
    }

    private static void sixteenCovering() {
        NestsByKnots n = new NestsByKnots();
        for (int i = 0; i < 16; i++) {
            n.lay(0, i % 2 == 0 ? 500 * (i / 2 % 5) + 5 : 100 * (i / 2 % 5) + 15, 0);
        }
        Due.is("28: all crossings", n.count(7), 25);
        Due.is("23: no holes", n.holes(), 0);
        Due.is("24: none", n.closes(1, 0), NONE);
        NestsByKnots holes = new NestsByKnots();
        int[] around = {5, 2005, 15, 415, 1201};
        for (int i = 0; i < 16; i++) {
            holes.lay(0, around[i % 5], 0);
        }
        Due.is("23: all but the one in the middle", holes.holes(), 7 << 6 | 5 << 11 | 7 << 16);
        Due.is("24: asked though full", holes.closes(5, 1), 3);
        Due.is("24: the first", holes.closes(5, 0), 115);
    }

    private static NestsByKnots blanks(int bytes) {
        NestsByKnots n = new NestsByKnots();
        for (int size = 0; size < bytes; size += 8) {
            int many = Math.min(8, bytes - size);
            Due.is("8: " + (size + many) + " bytes", n.feed(many, BLANKS), size + many);
        }
        return n;
    }

    private static void fullBytes() {
        for (int free = 0; free <= 8; free++) {
            for (int many = 1; many <= 8; many++) {
                NestsByKnots n = blanks(160 - free);
                int due = many <= free ? 160 - free + many : FULL;
                Due.is("8: " + many + " bytes where " + free + " have room", n.feed(many, BLANKS), due);
                Due.is("8: what there is then", n.count(4), many <= free ? due : 160 - free);
            }
        }
        NestsByKnots n = blanks(160);
        Due.is("9: 160 blanks end too early", n.text(), -260);
        Due.is("8: room again", n.feed(8, BLANKS), 8);
        NestsByKnots last = blanks(159);
        last.feed(1, '?');
        Due.is("9: a fault at the last byte", last.text(), -259);
        NestsByKnots word = blanks(157);
        word.feed(3, 'r' | 'u' << 8 | 'b' << 16);
        Due.is("9: a word up to the last byte", word.text(), -260);
        NestsByKnots refused = blanks(159);
        Due.is("8: none of two have room", refused.feed(2, '?'), FULL);
        Due.is("8: not even the first of them", refused.text(), -259);
    }

    private static String padded(String head, String piece, String tail, int size) {
        StringBuilder text = new StringBuilder(head);
        while (text.length() + piece.length() + tail.length() <= size) {
            text.append(piece);
        }
        return text.append(tail).toString();
    }

    private static void textsOf160() {
        String sum = padded("rub 0;next 1", "+1", ";take 0;", 160);
        Due.is("9: that long", sum.length(), 160);
        Due.is("9: a text of 160 bytes", Due.ruled(sum).good(1), 71);
        String minus = padded("rub 0;next 1", "-1", ";take 0;", 160);
        Due.is("9: as long, by minus", Due.ruled(minus).good(1), -69);
        String times = padded("rub 0;next 2", "*1", ";take 0;", 160);
        Due.is("9: as long, by times", Due.ruled(times).good(1), 2);
        String or = padded("rub 0;next 0", " or 0", " or 2;take 0;     ", 160);
        Due.is("9: that long", or.length(), 160);
        Due.is("9: as long, by or", Due.ruled(or).good(1), 1);
        String and = padded("rub 0;next 7", " and 7", " and 0 ;take 0; ", 160);
        Due.is("9: that long", and.length(), 160);
        Due.is("9: as long, by and", Due.ruled(and).good(1), 0);
        String blank = padded("rub 0;next 7;take 0;", " ", "", 160);
        Due.is("9: blanks to the end", Due.ruled(blank).good(1), 7);
        String early = padded("rub 0;next 1", "+1", ";take 0 ", 160);
        Due.is("9: it ends too early", Due.text(new NestsByKnots(), early), -260);
        String one = padded("rub 0;next 1", "+1", ";take 0 ?", 161);
        Due.is("9: that long", one.length(), 161);
        Due.is("9: the last byte has no room, and it ends too early", Due.text(new NestsByKnots(), one), -260);
    }

    private static void sixTexts() {
        NestsByKnots n = new NestsByKnots();
        for (int text = 1; text <= 5; text++) {
            Due.is("9: a fault between", Due.text(n, "rub ;"), -104);
            Due.is("9: text " + text, Due.text(n, "rub " + text + ";next 1" + text + ";take 0;"), text);
            Due.is("28: so many", n.count(3), text + 1);
        }
        Due.is("9: no seventh", Due.text(n, "rub 6;next 16;take 0;"), FULL);
        Due.is("9: its tape stays", n.count(4), 21);
        Due.is("8: and is fed still", n.feed(8, BLANKS), 29);
        Due.is("9: nor by a longer tape", n.text(), FULL);
        Due.is("10: no seventh", n.force(6), BAD);
        for (int text = 0; text < 6; text++) {
            Due.is("10: text " + text, n.force(text), Math.max(0, text - 1));
            Due.is("10: is as it was", n.good(1), text == 0 ? 0 : 10 + text);
        }
        NestsByKnots fault = Scenes.full();
        Due.is("9: full ahead of all, by a text that is good", fault.text(), FULL);
        for (int feed = 0; feed < 3; feed++) {
            Due.is("8: both are full", fault.feed(1, 32), FULL);
        }
    }

    private static NestsByKnots at(int hour) {
        NestsByKnots n = new NestsByKnots();
        return went(n, hour);
    }

    private static NestsByKnots went(NestsByKnots n, int hour) {
        for (int now = n.count(1); now < hour; now = n.count(1)) {
            n.hours(Math.min(99, hour - now));
        }
        return n;
    }

    private static void lastHour() {
        for (int left = 0; left <= 99; left += left < 2 || left > 96 ? 1 : 95) {
            for (int hours = 1; hours <= 99; hours += hours < 2 || hours > 96 ? 1 : 95) {
                NestsByKnots n = at(9999 - left);
                int due = hours <= left ? 9999 - left + hours : FULL;
                Due.is("4: " + hours + " hours where " + left + " are left", n.hours(hours), due);
                Due.is("4: the hour then", n.count(1), hours <= left ? due : 9999 - left);
            }
        }
        NestsByKnots n = new NestsByKnots();
        for (int kind = 0; kind < 6; kind++) {
            n.lay(kind, 501 + 100 * kind, 9);
        }
        went(n, 9999);
        int[] knots = {10, 12, 24, 0, 33, 5};
        int[] slips = {0, 0, 0, 1, 0, 1};
        for (int kind = 0; kind < 6; kind++) {
            Due.is("6: age", n.told(kind, 2), 9999);
            Due.is("6: knot at the last hour", n.told(kind, 3), knots[kind]);
            Due.is("6: hold at the last hour", n.told(kind, 8), knots[kind]);
            Due.is("6: slips at the last hour", n.told(kind, 4), slips[kind]);
            Due.is("6: not green", n.told(kind, 9), 0);
        }
        Due.is("2: laid at the last hour", n.lay(3, 1, 9), 6);
        Due.is("6: of age 0", n.told(6, 2), 0);
        Due.is("6: green", n.told(6, 9), 1);
        Due.is("6: by its knot", n.told(6, 3), 12);
    }

    private static void beyondTheLastHour() {
        NestsByKnots n = Due.ruled("rub age;next age+1;take 9998+strips<age;");
        Due.is("19: not now", n.takes(), 0);
        went(n, 9999);
        Due.is("19: age is the hour", n.takes(), 1);
        n.lay(0, 1, 0);
        Due.is("19: by strips", n.takes(), 0);
        Due.is("15: age 0 at the last hour", n.good(1), 1);
        Due.is("22: none", n.brown(47), 0);
        Due.is("22: later than the last hour", n.brown(48), 1);
        Due.is("22: later by most", n.brown(999), 1);
        n.image();
        Due.is("26: the last hour is kept", n.back(), 1);
        Due.is("27: the last hour", n.count(1), 9999);
        NestsByKnots back = at(9900);
        back.image();
        back.hours(99);
        Due.is("4: no more", back.hours(1), FULL);
        back.back();
        Due.is("27: ahead of the last hour again", back.count(1), 9900);
        Due.is("4: to the last again", back.hours(99), 9999);
    }

    private static void fullSheets() {
        NestsByKnots n = new NestsByKnots();
        for (int sort = 0; sort < 3; sort++) {
            Due.is("29: 40", n.sheet(0, sort, 40), 1);
            Due.is("29: 40 more", n.sheet(1, sort, 40), 1);
            Scenes.three(n, 0, 37, 0, 113, 9);
            Due.is("31: all of them", n.copy(0, 0, 1, 0, 40), 40);
            Due.is("31: one too many", n.copy(0, 0, 1, 0, 41), -12);
            Due.is("32: the last three", n.strips(1, sort, 37, 1), 1);
            Due.is("32: they are what was copied", n.told(sort, 1), 113);
            Due.is("32: one less than three", n.strips(1, sort, 38, 1), -12);
            Due.is("31: the last alone", n.copy(0, 39, 1, 39, 1), 1);
            Due.is("31: behind the last", n.copy(0, 40, 1, 39, 1), -12);
            Due.is("31: to behind the last", n.copy(0, 39, 1, 40, 1), -12);
            Due.is("31: none, from behind the last to there", n.copy(0, 40, 1, 40, 0), 0);
        }
    }

    private static void imageOfAll() {
        NestsByKnots n = Scenes.full();
        Due.is("26: sixteen", n.image(), 16);
        Due.is("12: all gone", n.pulled(0, 999), 16);
        n.green(1);
        n.force(0);
        n.lay(0, 2401, 9);
        Due.is("27: sixteen", n.back(), 16);
        Due.is("2: no room again", n.lay(0, 1, 0), FULL);
        Due.is("27: green", n.count(2), 99);
        Due.is("27: rule", n.count(5), 5);
        Refused.alike("27: as the full one is with its image", () -> imaged(false), () -> imaged(true));
    }

    /** A full object with an image of all, perhaps changed meanwhile. */
    private static NestsByKnots imaged(boolean changed) {
        NestsByKnots n = Scenes.full();
        n.image();
        if (changed) {
            n.pulled(12, 999);
            n.build(5, 8);
            n.green(3);
            n.force(2);
            n.back();
        }
        return n;
    }

    /** An object is used for 512 calls: the last of them are answered as the first. */
    private static void theLastCalls() {
        NestsByKnots n = new NestsByKnots();
        for (int call = 1; call <= 511; call += 7) {
            Due.is("call " + call, n.lay(0, 5, 4), 0);
            Due.is("call " + (call + 1), n.told(0, 8), 5);
            Due.is("call " + (call + 2), n.out(0), 0);
            Due.is("call " + (call + 3), n.feed(3, 'r' | 'u' << 8 | 'b' << 16), 3);
            Due.is("call " + (call + 4), n.text(), -103);
            Due.is("call " + (call + 5), n.sheet(0, 0, 40), 1);
            Due.is("call " + (call + 6), n.image(), 0);
        }
        Due.is("call 512", n.lay(0, 5, 4), 0);
    }
}
