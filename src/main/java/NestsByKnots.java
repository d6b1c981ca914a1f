import java.util.Arrays;

/**
 * Nests hung by knots: strips laid through crossings of a small net below a twig, who holds, who
 * pulls, what falls, and what a rule of texts says of them. The words in capitals are the document's.
 */
public final class NestsByKnots {
    public static final int NONE = -1, BAD = -2, STATE = -3, FULL = -4;
    public static final long NO = -4611686018427387904L;

    private static final int NO_SUCH = -5;
    private static final int NOTHING = -11, OUTSIDE = -12, UNLIKE = -13, BELOW_ZERO = -14;

    private static final int SIDE = 5, CROSSINGS = 25, PLACES = 50, LONGEST = 5;
    private static final int STRIPS = 16, KINDS = 6, NUMBERS = 10;
    private static final int LAST_HOUR = 9999, MOST_HOURS = 99, MOST_GREEN = 99, FIRST_GREEN = 48;
    private static final int STRONGEST = 999, LATEST_BROWN = 999, LATEST_WHEN = 200, MOST_BUILT = 8;

    private static final int TEXTS = 6, TAPE = 160, OPEN = 5, DIGITS = 4, MOST_RUB = 99;
    private static final String FIRST_TEXT = "rub 3 ; next cross * 2 - y ; take 3 < y and 4 < x ;";
    private static final int PARTS = 3, RUB_PART = 0, NEXT_PART = 1, TAKE_PART = 2;

    /* A text's code: a number of 0 or more stands for itself, the signs below for what they do. */
    private static final int X = -1, Y = -2, CROSS = -3, LONG = -4, AGE = -5, COUNT = -6, NAMES = 6;
    private static final int OR = -7, AND = -8, NOT = -9, LESS = -10, LIKE = -11;
    private static final int PLUS = -12, MINUS = -13, TIMES = -14, MINUS_ONE = -15;

    /* Tokens: the signs are their own bytes (40 and more), so these stay below. */
    private static final int END = 0, WRONG = 1, NUMBER = 2, NAME = 3;
    private static final String SIGNS = "();+-*<=";
    private static final int RUB_KEY = 4, NEXT_KEY = 5, TAKE_KEY = 6, OR_KEY = 7, AND_KEY = 8, NOT_KEY = 9;

    private static final int SHEETS = 4, SORTS = 3, LONGEST_SHEET = 40, MISSING = -1, MOST_BY_SHEET = 12;
    private static final int BYTES = 0, SHORTS = 1;

    private final Reader reader = new Reader();
    private final Text[] texts = new Text[TEXTS];
    private int textsMade;
    private final Net net;
    private final Net kept;
    private boolean keeps;
    private final Sheet[] sheets = new Sheet[SHEETS];

    public NestsByKnots() {
        for (int i = 0; i < FIRST_TEXT.length(); i++) {
            reader.append((byte) FIRST_TEXT.charAt(i));
        }
        reader.readTape();
        Text first = reader.made(0);
        texts[0] = first;
        textsMade = 1;
        net = new Net(first);
        kept = new Net(first);
        for (int i = 0; i < SHEETS; i++) {
            sheets[i] = new Sheet();
        }
    }

    // ---- strips, hours

    public int lay(int kind, int where, int number) {
        if (!canBeLaid(kind, where, number)) {
            return BAD;
        }
        int strip = net.leastFree();
        if (strip == NONE) {
            return FULL;
        }
        net.put(strip, knotOf(kind, number), where);
        return strip;
    }

    public int out(int strip) {
        if (!net.has(strip)) {
            return BAD;
        }
        net.drop(1 << strip);
        return net.size();
    }

    public int hours(int n) {
        if (n < 1 || n > MOST_HOURS) {
            return BAD;
        }
        if (net.hour + n > LAST_HOUR) {
            return FULL;
        }
        net.hour += n;
        return net.hour;
    }

    public int green(int v) {
        if (v < 1 || v > MOST_GREEN) {
            return BAD;
        }
        int was = net.greenBelow;
        net.greenBelow = v;
        return was;
    }

    public int told(int strip, int what) {
        if (!net.has(strip)) {
            return NO_SUCH;
        }
        Tuck knot = net.knots[strip];
        int age = net.ageOf(strip, net.hour);
        switch (what) {
            case 0: return knot.kind();
            case 1: return net.wheres[strip];
            case 2: return age;
            case 3: return Math.max(knot.knot(age), 0);
            case 4: return knot.slips(age) ? 1 : 0;
            case 5: return knot.ties();
            case 6: return net.crosses(strip, net.all);
            case 7: return net.rubs(strip, net.all);
            case 8: return net.hold(strip, net.all, net.hour);
            case 9: return net.isGreen(strip, net.hour) ? 1 : 0;
            default: return NO_SUCH;
        }
    }

    public int at(int crossing) {
        return isCrossing(crossing) ? net.lying[crossing] : BAD;
    }

    // ---- texts

    public int feed(int n, long bytes) {
        if (n < 1 || n > 8) {
            return BAD;
        }
        if (reader.size + n > TAPE) {
            return FULL;
        }
        for (int i = 0; i < n; i++) {
            reader.append((byte) (bytes >> (8 * i)));
        }
        return reader.size;
    }

    public int text() {
        if (textsMade >= TEXTS) {
            return FULL;
        }
        int fault = reader.readTape();
        if (fault != NONE) {
            return -100 - fault;
        }
        texts[textsMade] = reader.made(textsMade);
        textsMade++;
        return textsMade - 1;
    }

    public int force(int text) {
        if (text < 0 || text >= textsMade) {
            return BAD;
        }
        int was = net.rule.number;
        net.rule = texts[text];
        return was;
    }

    // ---- pulls

    public int pull(int crossing, int strong, int what) {
        if (!isPull(crossing, strong) || what < 0 || what > 1) {
            return BAD;
        }
        int taken = net.takenByPull(crossing, strong);
        return what == 0 ? taken : net.withFallen(taken);
    }

    public int pulled(int crossing, int strong) {
        if (!isPull(crossing, strong)) {
            return BAD;
        }
        return net.lose(net.withFallen(net.takenByPull(crossing, strong)));
    }

    public int falls() {
        return net.falling(net.all);
    }

    public int least(int crossing, int what) {
        if (!isCrossing(crossing) || what < 0 || what > 1) {
            return BAD;
        }
        int there = net.lying[crossing];
        if (there == 0) {
            return NONE;
        }
        return what == 0 ? net.leastPull(crossing) : Integer.bitCount(net.hanging(net.all & ~there));
    }

    // ---- what comes next

    public long good(int where) {
        return fits(where) ? net.worthNext(where) : NO;
    }

    public int next(int many) {
        return isLong(many) ? net.nextOf(many).where : BAD;
    }

    public int build(int many, int n) {
        if (!isLong(many) || n < 0 || n > MOST_BUILT) {
            return BAD;
        }
        for (int laid = 0; laid < n; laid++) {
            int strip = net.leastFree();
            if (strip == NONE) {
                return laid;
            }
            net.put(strip, knotOf(0, 0), net.nextOf(many).where);
        }
        return n;
    }

    public int best(int kind, int number, int many, int what) {
        if (!isKnot(kind, number) || !isLong(many) || what < 0 || what > 1) {
            return BAD;
        }
        int strip = net.leastFree();
        if (strip == NONE) {
            return FULL;
        }
        Choice choice = net.bestOf(strip, knotOf(kind, number), many);
        return what == 0 ? choice.where : choice.worth;
    }

    // ---- she, holes

    public int takes() {
        return net.isTaken(net.hour) ? 1 : 0;
    }

    public int when() {
        if (!net.isTaken(net.hour)) {
            return STATE;
        }
        for (int later = 1; later <= LATEST_WHEN; later++) {
            if (!net.isTaken(net.hour + later)) {
                return later;
            }
        }
        return NONE;
    }

    public int spare() {
        int falling = net.falling(net.all);
        int bits = 0;
        for (int strip = 0; strip < STRIPS; strip++) {
            if (net.has(strip) && (net.falling(net.all & ~(1 << strip)) & ~falling) == 0) {
                bits |= 1 << strip;
            }
        }
        return bits;
    }

    public int brown(int later) {
        if (later < 0 || later > LATEST_BROWN) {
            return BAD;
        }
        return net.all & ~net.greenBits(net.hour + later);
    }

    public int holes() {
        return net.holeBits();
    }

    public int closes(int many, int what) {
        if (!isLong(many) || what < 0 || what > 1) {
            return BAD;
        }
        int holes = net.holeBits();
        if (holes == 0) {
            return NONE;
        }
        Choice choice = net.closingOf(holes, many);
        return what == 0 ? choice.where : choice.worth;
    }

    public int slipped() {
        return net.lose(net.withFallen(net.slipping()));
    }

    public int image() {
        kept.becomes(net);
        keeps = true;
        return kept.size();
    }

    public int back() {
        if (!keeps) {
            return STATE;
        }
        net.becomes(kept);
        return net.size();
    }

    public int count(int what) {
        switch (what) {
            case 0: return net.size();
            case 1: return net.hour;
            case 2: return net.greenBelow;
            case 3: return textsMade;
            case 4: return reader.size;
            case 5: return net.rule.number;
            case 6: return Integer.bitCount(net.greenBits(net.hour));
            case 7: return Integer.bitCount(net.covered());
            default: return BAD;
        }
    }

    // ---- the host

    public int sheet(int sheet, int sort, int n) {
        if (!isSheet(sheet) || sort != MISSING && !isSort(sort)) {
            return BAD;
        }
        if (sort == MISSING) {
            sheets[sheet].becomes(MISSING, 0);
            return 1;
        }
        if (n > LONGEST_SHEET) {
            return BAD;
        }
        if (n < 0) {
            return BELOW_ZERO;
        }
        sheets[sheet].becomes(sort, n);
        return 1;
    }

    public int cell(int sheet, int i, int v) {
        if (!isSheet(sheet)) {
            return BAD;
        }
        Sheet row = sheets[sheet];
        if (row.sort == MISSING) {
            return NOTHING;
        }
        if (i < 0 || i >= row.size) {
            return OUTSIDE;
        }
        row.write(i, v);
        return 1;
    }

    public int copy(int sheet, int i, int other, int j, int n) {
        if (!isSheet(sheet) || !isSheet(other)) {
            return BAD;
        }
        Sheet from = sheets[sheet];
        Sheet to = sheets[other];
        if (from.sort == MISSING || to.sort == MISSING) {
            return NOTHING;
        }
        if (from.sort != to.sort) {
            return UNLIKE;
        }
        if (!from.holds(i, n) || !to.holds(j, n)) {
            return OUTSIDE;
        }
        System.arraycopy(from.items, i, to.items, j, n);
        return n;
    }

    public int strips(int sheet, int sort, int from, int n) {
        if (!isSheet(sheet) || !isSort(sort) || n < 0 || n > MOST_BY_SHEET) {
            return BAD;
        }
        Sheet row = sheets[sheet];
        if (row.sort == MISSING) {
            return NOTHING;
        }
        if (row.sort != sort) {
            return UNLIKE;
        }
        int came = 0;
        for (int i = 0; i < n; i++) {
            int item = from + 3 * i;
            // the first triple is looked at alone: behind it from is small, and the sum can't wrap
            if (!row.holds(item, 3)) {
                return OUTSIDE;
            }
            if (lay(row.items[item], row.items[item + 1], row.items[item + 2]) >= 0) {
                came++;
            }
        }
        return came;
    }

    public int taken(int strip, int k) {
        if (k < 0 || k >= KINDS) {
            return BAD;
        }
        if (!net.has(strip)) {
            return NOTHING;
        }
        Tuck knot = net.knots[strip];
        return isUnder(knot, k) ? knot.number : UNLIKE;
    }

    // ---- what the calls ask of their numbers

    private static boolean isCrossing(int crossing) {
        return crossing >= 0 && crossing < CROSSINGS;
    }

    private static boolean isLong(int many) {
        return many >= 1 && many <= LONGEST;
    }

    private static boolean isKnot(int kind, int number) {
        return kind >= 0 && kind < KINDS && number >= 0 && number < NUMBERS;
    }

    private static boolean canBeLaid(int kind, int where, int number) {
        return isKnot(kind, number) && fits(where);
    }

    private static boolean isPull(int crossing, int strong) {
        return isCrossing(crossing) && strong >= 1 && strong <= STRONGEST;
    }

    private static boolean isSheet(int sheet) {
        return sheet >= 0 && sheet < SHEETS;
    }

    private static boolean isSort(int sort) {
        return sort >= 0 && sort < SORTS;
    }

    // ---- where strips lie: 100 times the first crossing, 10 times the way, and how long

    private static int firstOf(int where) {
        return where / 100;
    }

    private static int wayOf(int where) {
        return where / 10 % 10;
    }

    private static int longOf(int where) {
        return where % 10;
    }

    private static int stepOf(int where) {
        return where / 10 % 10 == 0 ? 1 : SIDE;
    }

    private static boolean fits(int where) {
        if (where < 0 || !isCrossing(firstOf(where)) || wayOf(where) > 1 || !isLong(longOf(where))) {
            return false;
        }
        int first = firstOf(where);
        int ahead = wayOf(where) == 0 ? first % SIDE : first / SIDE;
        return ahead + longOf(where) <= SIDE;
    }

    /** The i-th of all places of a LONG, by first CROSSING, then WAY; some do not fit. */
    private static int placeOf(int i, int many) {
        return 100 * (i / 2) + 10 * (i % 2) + many;
    }

    // ---- kinds of knots

    private static Tuck knotOf(int kind, int number) {
        switch (kind) {
            case 1: return new Loop(number);
            case 2: return new Hitch(number);
            case 3: return new Slip(number);
            case 4: return new DoubleHitch(number);
            case 5: return new Play(number);
            default: return new Tuck(number);
        }
    }

    private static boolean isUnder(Tuck knot, int kind) {
        switch (kind) {
            case 1: return knot instanceof Loop;
            case 2: return knot instanceof Hitch;
            case 3: return knot instanceof Slip;
            case 4: return knot instanceof DoubleHitch;
            case 5: return knot instanceof Play;
            default: return true;
        }
    }

    private static class Tuck {
        final int number;

        Tuck(int number) {
            this.number = number;
        }

        int kind() {
            return 0;
        }

        int knot(int age) {
            return number + 1;
        }

        boolean slips(int age) {
            return false;
        }

        int ties() {
            return 1;
        }
    }

    private static class Loop extends Tuck {
        Loop(int number) {
            super(number);
        }

        int kind() {
            return 1;
        }

        int knot(int age) {
            return super.knot(age) + 2;
        }

        int ties() {
            return super.ties() + 1;
        }
    }

    private static class Hitch extends Loop {
        Hitch(int number) {
            super(number);
        }

        int kind() {
            return 2;
        }

        int knot(int age) {
            return 2 * super.knot(age);
        }
    }

    private static final class Slip extends Loop {
        Slip(int number) {
            super(number);
        }

        int kind() {
            return 3;
        }

        int knot(int age) {
            return super.knot(age) - age / 10;
        }

        boolean slips(int age) {
            return age >= 100;
        }
    }

    private static final class DoubleHitch extends Hitch {
        DoubleHitch(int number) {
            super(number);
        }

        int kind() {
            return 4;
        }

        int knot(int age) {
            return super.knot(age) + number;
        }

        int ties() {
            return 2 * super.ties();
        }
    }

    private static final class Play extends Tuck {
        Play(int number) {
            super(number);
        }

        int kind() {
            return 5;
        }

        int knot(int age) {
            return super.knot(age) / 2;
        }

        boolean slips(int age) {
            return age >= 10 + number;
        }
    }

    /** The best of what was offered; of like ones the first. */
    private static final class Choice {
        int where = NONE;
        int worth;

        void clear() {
            where = NONE;
        }

        void offer(int otherWhere, int otherWorth) {
            if (where == NONE || otherWorth > worth) {
                where = otherWhere;
                worth = otherWorth;
            }
        }
    }

    /** All that AN IMAGE keeps, and what follows from it; a mask says which STRIPS are there, as if. */
    private static final class Net {
        final Tuck[] knots = new Tuck[STRIPS];
        final int[] wheres = new int[STRIPS];
        final int[] laidAt = new int[STRIPS];
        final int[] lying = new int[CROSSINGS];
        int all;
        int hour;
        int greenBelow = FIRST_GREEN;
        Text rule;
        private final int[] names = new int[NAMES];
        private final int[] stack = new int[TAPE];
        private final Choice choice = new Choice();

        Net(Text rule) {
            this.rule = rule;
        }

        boolean has(int strip) {
            return strip >= 0 && strip < STRIPS && knots[strip] != null;
        }

        int size() {
            return Integer.bitCount(all);
        }

        int leastFree() {
            for (int strip = 0; strip < STRIPS; strip++) {
                if (knots[strip] == null) {
                    return strip;
                }
            }
            return NONE;
        }

        void put(int strip, Tuck knot, int where) {
            knots[strip] = knot;
            wheres[strip] = where;
            laidAt[strip] = hour;
            all |= 1 << strip;
            for (int i = 0; i < longOf(where); i++) {
                lying[firstOf(where) + i * stepOf(where)] |= 1 << strip;
            }
        }

        void drop(int bits) {
            for (int strip = 0; strip < STRIPS; strip++) {
                if ((bits >> strip & 1) != 0) {
                    knots[strip] = null;
                }
            }
            all &= ~bits;
            for (int crossing = 0; crossing < CROSSINGS; crossing++) {
                lying[crossing] &= ~bits;
            }
        }

        int lose(int bits) {
            drop(bits);
            return Integer.bitCount(bits);
        }

        void becomes(Net other) {
            for (int strip = 0; strip < STRIPS; strip++) {
                knots[strip] = other.knots[strip];
                wheres[strip] = other.wheres[strip];
                laidAt[strip] = other.laidAt[strip];
            }
            for (int crossing = 0; crossing < CROSSINGS; crossing++) {
                lying[crossing] = other.lying[crossing];
            }
            all = other.all;
            hour = other.hour;
            greenBelow = other.greenBelow;
            rule = other.rule;
        }

        int ageOf(int strip, int then) {
            return then - laidAt[strip];
        }

        boolean isGreen(int strip, int then) {
            return ageOf(strip, then) < greenBelow;
        }

        int greenBits(int then) {
            int bits = 0;
            for (int strip = 0; strip < STRIPS; strip++) {
                if (has(strip) && isGreen(strip, then)) {
                    bits |= 1 << strip;
                }
            }
            return bits;
        }

        int slipping() {
            int bits = 0;
            for (int strip = 0; strip < STRIPS; strip++) {
                if (has(strip) && knots[strip].slips(ageOf(strip, hour))) {
                    bits |= 1 << strip;
                }
            }
            return bits;
        }

        int crosses(int strip, int mask) {
            return met(wheres[strip], mask & ~(1 << strip), STRIPS);
        }

        int rubs(int strip, int mask) {
            return has(strip) ? met(wheres[strip], mask & ~(1 << strip), knots[strip].ties()) : 0;
        }

        /** How many of these lie along a place, at most so many counted at each CROSSING. */
        private int met(int where, int others, int most) {
            int together = 0;
            for (int i = 0; i < longOf(where); i++) {
                int there = lying[firstOf(where) + i * stepOf(where)] & others;
                together += Math.min(Integer.bitCount(there), most);
            }
            return together;
        }

        int hold(int strip, int mask, int then) {
            if (!has(strip)) {
                return 0;
            }
            int age = ageOf(strip, then);
            nameStrip(wheres[strip], crosses(strip, mask), age, Integer.bitCount(mask));
            int rub = Math.max(0, Math.min(MOST_RUB, rule.worth(RUB_PART, names, stack)));
            return Math.max(knots[strip].knot(age), 0) + rub * rubs(strip, mask);
        }

        private void nameStrip(int where, int cross, int age, int strips) {
            name(firstOf(where) % SIDE, firstOf(where) / SIDE, cross, longOf(where), age, strips);
        }

        private void name(int x, int y, int cross, int many, int age, int strips) {
            names[0] = x;
            names[1] = y;
            names[2] = cross;
            names[3] = many;
            names[4] = age;
            names[5] = strips;
        }

        private int leastHold(int then) {
            // no HOLD is below 0, so none is NONE
            int least = NONE;
            for (int strip = 0; strip < STRIPS; strip++) {
                if (has(strip)) {
                    int hold = hold(strip, all, then);
                    least = least == NONE ? hold : Math.min(least, hold);
                }
            }
            return Math.max(least, 0);
        }

        int hanging(int mask) {
            int hung = 0;
            for (int crossing = 0; crossing < SIDE; crossing++) {
                hung |= lying[crossing] & mask;
            }
            // each round but the last hangs one more at least
            for (int round = 0; round < STRIPS; round++) {
                int more = hung;
                for (int crossing = 0; crossing < CROSSINGS; crossing++) {
                    if ((lying[crossing] & hung) != 0) {
                        more |= lying[crossing] & mask;
                    }
                }
                if (more == hung) {
                    break;
                }
                hung = more;
            }
            return hung;
        }

        int falling(int mask) {
            return mask & ~hanging(mask);
        }

        int withFallen(int taken) {
            return taken | falling(all & ~taken);
        }

        int takenByPull(int crossing, int strong) {
            int left = all;
            // each round but the last takes one at least
            for (int round = 0; round < STRIPS; round++) {
                int loose = looseAt(crossing, strong, left);
                if (loose == 0) {
                    break;
                }
                left &= ~loose;
            }
            return all & ~left;
        }

        private int looseAt(int crossing, int strong, int mask) {
            int there = lying[crossing] & mask;
            int bits = 0;
            for (int strip = 0; strip < STRIPS; strip++) {
                if ((there >> strip & 1) != 0 && hold(strip, mask, hour) < strong) {
                    bits |= 1 << strip;
                }
            }
            return bits;
        }

        int leastPull(int crossing) {
            int left = all;
            int greatest = 0;
            for (int i = 0; i < STRIPS && (lying[crossing] & left) != 0; i++) {
                int strip = weakestAt(crossing, left);
                greatest = Math.max(greatest, hold(strip, left, hour));
                left &= ~(1 << strip);
            }
            return greatest + 1;
        }

        /** The least strip of those there whose HOLD is least; NONE, if none lies there. */
        private int weakestAt(int crossing, int mask) {
            int there = lying[crossing] & mask;
            int found = NONE;
            int least = 0;
            for (int strip = 0; strip < STRIPS; strip++) {
                if ((there >> strip & 1) != 0) {
                    int hold = hold(strip, mask, hour);
                    if (found == NONE || hold < least) {
                        found = strip;
                        least = hold;
                    }
                }
            }
            return found;
        }

        int worthNext(int where) {
            nameStrip(where, met(where, all, STRIPS), 0, size());
            return rule.worth(NEXT_PART, names, stack);
        }

        Choice nextOf(int many) {
            choice.clear();
            for (int i = 0; i < PLACES; i++) {
                int where = placeOf(i, many);
                if (fits(where)) {
                    choice.offer(where, worthNext(where));
                }
            }
            return choice;
        }

        /** The strip lies at each place for a while: by then all HOLDS are as they would be. */
        Choice bestOf(int strip, Tuck knot, int many) {
            choice.clear();
            for (int i = 0; i < PLACES; i++) {
                int where = placeOf(i, many);
                if (fits(where)) {
                    put(strip, knot, where);
                    choice.offer(where, leastHold(hour));
                    drop(1 << strip);
                }
            }
            return choice;
        }

        Choice closingOf(int holes, int many) {
            choice.clear();
            for (int i = 0; i < PLACES; i++) {
                int where = placeOf(i, many);
                if (fits(where)) {
                    choice.offer(where, Integer.bitCount(crossingsOf(where) & holes));
                }
            }
            return choice;
        }

        private static int crossingsOf(int where) {
            int bits = 0;
            for (int i = 0; i < longOf(where); i++) {
                bits |= 1 << (firstOf(where) + i * stepOf(where));
            }
            return bits;
        }

        int covered() {
            int bits = 0;
            for (int crossing = 0; crossing < CROSSINGS; crossing++) {
                if (lying[crossing] != 0) {
                    bits |= 1 << crossing;
                }
            }
            return bits;
        }

        int holeBits() {
            int covered = covered();
            int bits = 0;
            for (int crossing = 0; crossing < CROSSINGS; crossing++) {
                if ((covered >> crossing & 1) == 0 && isEnclosed(crossing, covered)) {
                    bits |= 1 << crossing;
                }
            }
            return bits;
        }

        private static boolean isEnclosed(int crossing, int covered) {
            int x = crossing % SIDE;
            int y = crossing / SIDE;
            boolean left = false;
            boolean right = false;
            boolean above = false;
            boolean below = false;
            for (int i = 0; i < SIDE; i++) {
                boolean inRow = (covered >> (SIDE * y + i) & 1) != 0;
                boolean inLine = (covered >> (SIDE * i + x) & 1) != 0;
                left |= inRow && i < x;
                right |= inRow && i > x;
                above |= inLine && i < y;
                below |= inLine && i > y;
            }
            return left && right && above && below;
        }

        boolean isTaken(int then) {
            // first, since the HOLDS use the same names
            int least = leastHold(then);
            name(Integer.bitCount(covered()), Integer.bitCount(greenBits(then)), least, 0, then, size());
            return rule.worth(TAKE_PART, names, stack) != 0;
        }
    }

    /** A TEXT as code: operands ahead of what works on them; its three parts one behind the other. */
    private static final class Text {
        final int number;
        private final int[] code;
        private final int[] ends;

        Text(int number, int[] code, int[] ends) {
            this.number = number;
            this.code = code;
            this.ends = ends;
        }

        /** What a part comes to; what a Reader made never needs more of the stack than a tape has bytes. */
        int worth(int part, int[] names, int[] stack) {
            int top = 0;
            for (int i = part == 0 ? 0 : ends[part - 1]; i < ends[part]; i++) {
                int sign = code[i];
                if (sign >= -NAMES && top < stack.length) {
                    stack[top] = sign >= 0 ? sign : names[-1 - sign];
                    top++;
                } else if ((sign == NOT || sign == MINUS_ONE) && top >= 1) {
                    stack[top - 1] = ofOne(sign, stack[top - 1]);
                } else if (top >= 2) {
                    top--;
                    stack[top - 1] = ofTwo(sign, stack[top - 1], stack[top]);
                }
            }
            return stack[0];
        }

        private static int ofOne(int sign, int a) {
            return sign == NOT ? bit(a == 0) : -a;
        }

        private static int ofTwo(int sign, int a, int b) {
            switch (sign) {
                case OR: return bit(a != 0 || b != 0);
                case AND: return bit(a != 0 && b != 0);
                case LESS: return bit(a < b);
                case LIKE: return bit(a == b);
                case PLUS: return a + b;
                case MINUS: return a - b;
                default: return a * b;
            }
        }

        private static int bit(boolean holds) {
            return holds ? 1 : 0;
        }
    }

    /** THE TAPE, and what reads a TEXT from it, token by token, till the first that can't stand there. */
    private static final class Reader {
        int size;
        private final byte[] tape = new byte[TAPE];
        private int place;
        private int start;
        private int token;
        private int value;
        private int fault;
        private final int[] code = new int[TAPE];
        private int length;
        private final int[] ends = new int[PARTS];

        void append(byte b) {
            if (size < TAPE) {
                tape[size] = b;
                size++;
            }
        }

        /** The place of the FAULT, or NONE; THE TAPE is empty then. */
        int readTape() {
            place = 0;
            length = 0;
            fault = NONE;
            advance();
            part(RUB_KEY, RUB_PART);
            part(NEXT_KEY, NEXT_PART);
            part(TAKE_KEY, TAKE_PART);
            if (token != END) {
                refuse();
            }
            size = 0;
            return fault;
        }

        Text made(int number) {
            return new Text(number, Arrays.copyOf(code, length), ends.clone());
        }

        private void part(int key, int which) {
            expect(key);
            either(0);
            expect(';');
            ends[which] = length;
        }

        private void expect(int wanted) {
            if (token == wanted) {
                advance();
            } else {
                refuse();
            }
        }

        /** From here on no token is read: WRONG stands nowhere. */
        private void refuse() {
            if (fault == NONE) {
                fault = start;
            }
            token = WRONG;
        }

        /** As many signs come as tokens went, so the code has room for all. */
        private void emit(int sign) {
            if (length < TAPE) {
                code[length] = sign;
                length++;
            }
        }

        // open: how many ( , not and - are open

        private void either(int open) {
            both(open);
            for (int i = 0; i < TAPE && token == OR_KEY; i++) {
                advance();
                both(open);
                emit(OR);
            }
        }

        private void both(int open) {
            denied(open);
            for (int i = 0; i < TAPE && token == AND_KEY; i++) {
                advance();
                denied(open);
                emit(AND);
            }
        }

        private void denied(int open) {
            if (token == NOT_KEY && open < OPEN) {
                advance();
                denied(open + 1);
                emit(NOT);
                return;
            }
            sum(open);
            if (token == '<' || token == '=') {
                int sign = token == '<' ? LESS : LIKE;
                advance();
                sum(open);
                emit(sign);
            }
        }

        private void sum(int open) {
            term(open);
            for (int i = 0; i < TAPE && (token == '+' || token == '-'); i++) {
                int sign = token == '+' ? PLUS : MINUS;
                advance();
                term(open);
                emit(sign);
            }
        }

        private void term(int open) {
            one(open);
            for (int i = 0; i < TAPE && token == '*'; i++) {
                advance();
                one(open);
                emit(TIMES);
            }
        }

        private void one(int open) {
            if (token == NUMBER || token == NAME) {
                emit(value);
                advance();
            } else if (token == '-' && open < OPEN) {
                advance();
                one(open + 1);
                emit(MINUS_ONE);
            } else if (token == '(' && open < OPEN) {
                advance();
                either(open + 1);
                expect(')');
            } else {
                refuse();
            }
        }

        private void advance() {
            while (place < size && (tape[place] == ' ' || tape[place] == '\n')) {
                place++;
            }
            start = place;
            if (place >= size) {
                token = END;
            } else if (isLetter(tape[place])) {
                word();
            } else if (isDigit(tape[place])) {
                digits();
            } else {
                token = isSign(tape[place]) ? tape[place] : WRONG;
                place++;
            }
        }

        private void digits() {
            value = 0;
            while (place < size && isDigit(tape[place])) {
                value = 10 * value + tape[place] - '0';
                place++;
            }
            token = place - start > DIGITS ? WRONG : NUMBER;
        }

        private void word() {
            while (place < size && isLetter(tape[place])) {
                place++;
            }
            value = nameHere();
            token = value < 0 ? NAME : keyHere();
        }

        private int nameHere() {
            if (spells("x")) {
                return X;
            }
            if (spells("y")) {
                return Y;
            }
            if (spells("cross")) {
                return CROSS;
            }
            if (spells("long")) {
                return LONG;
            }
            if (spells("age")) {
                return AGE;
            }
            return spells("strips") ? COUNT : 0;
        }

        private int keyHere() {
            if (spells("rub")) {
                return RUB_KEY;
            }
            if (spells("next")) {
                return NEXT_KEY;
            }
            if (spells("take")) {
                return TAKE_KEY;
            }
            if (spells("or")) {
                return OR_KEY;
            }
            if (spells("and")) {
                return AND_KEY;
            }
            return spells("not") ? NOT_KEY : WRONG;
        }

        private boolean spells(String word) {
            if (place - start != word.length()) {
                return false;
            }
            for (int i = 0; i < word.length(); i++) {
                if (tape[start + i] != word.charAt(i)) {
                    return false;
                }
            }
            return true;
        }

        private static boolean isSign(int b) {
            return SIGNS.indexOf((char) (b & 255)) >= 0;
        }

        private static boolean isLetter(int b) {
            return b >= 'a' && b <= 'z';
        }

        private static boolean isDigit(int b) {
            return b >= '0' && b <= '9';
        }
    }

    /** A row of numbers, or missing. */
    private static final class Sheet {
        int sort = MISSING;
        int size;
        final int[] items = new int[LONGEST_SHEET];

        void becomes(int newSort, int n) {
            sort = newSort;
            size = n;
            Arrays.fill(items, 0);
        }

        void write(int i, int v) {
            items[i] = sort == BYTES ? (byte) v : sort == SHORTS ? (short) v : v;
        }

        boolean holds(int from, int n) {
            return from >= 0 && n >= 0 && n <= size - from;
        }
    }
}
