/** Ints that wrap: in an E, in a SHEET by its sort, and in the numbers that a call is given. */
public final class WrapsTest {
    private static final int LEAST = Integer.MIN_VALUE;
    private static final int MOST = Integer.MAX_VALUE;
    private static final int OUTSIDE = -12;
    // the greatest int, by steps that do not wrap
    private static final String TOP = "(9999*9999*21+9999*4790+8416)";
    // 2 to the 32nd
    private static final String ROUND = "4096*4096*256";

    public static void main(String[] args) {
        ends();
        products();
        conditions();
        rub();
        next();
        take();
        when();
        bytesOfANumber();
        cellsOfBytes();
        cellsOfShorts();
        cellsOfInts();
        copies();
        stripsOfSheets();
        Due.end("WrapsTest");
    }

    private static void worth(String e, long want) {
        Due.is("9: " + e, Due.ruled("rub 0;next " + e + ";take 0;").good(1), want);
    }

    private static void ends() {
        worth(TOP, MOST);
        worth(TOP + "+0", MOST);
        worth(TOP + "+1", LEAST);
        worth("1+" + TOP, LEAST);
        worth(TOP + "+" + TOP, -2);
        worth("-" + TOP, -MOST);
        worth("-" + TOP + "-1", LEAST);
        worth("-" + TOP + "-2", MOST);
        worth("0-" + TOP + "-2", MOST);
        worth("-(-" + TOP + "-1)", LEAST);
        worth("0-(0-" + TOP + "-1)", LEAST);
        worth("-" + TOP + "-" + TOP, 2);
        worth(TOP + "+1-1", MOST);
    }

    private static void products() {
        worth("9999*9999*21", 2099580021);
        worth("9999*9999*22", (int) 2199560022L);
        worth("-9999*9999*22", (int) -2199560022L);
        worth("4096*4096*128", LEAST);
        worth("4096*4096*127", 2130706432);
        worth("-4096*4096*128", LEAST);
        worth("4096*4096*129", LEAST + 16777216);
        worth(ROUND, 0);
        worth(ROUND + "+7", 7);
        worth(ROUND + "*9999", 0);
        worth(TOP + "*" + TOP, 1);
        worth(TOP + "*2", -2);
        worth("(" + TOP + "+1)*-1", LEAST);
        worth("(" + TOP + "+1)*2", 0);
        worth("9999*9999*9999*9999", (int) (9999L * 9999 * 9999 * 9999));
    }

    private static void conditions() {
        worth(TOP + "<" + TOP + "+1", 0);
        worth(TOP + "+1<" + TOP, 1);
        worth(TOP + "+1<0", 1);
        worth(TOP + "<0", 0);
        // by the least and the greatest the difference wraps
        worth("-" + TOP + "-1<1", 1);
        worth("-" + TOP + "-1<" + TOP, 1);
        worth(TOP + "< -" + TOP + "-1", 0);
        worth(TOP + "+1= -" + TOP + "-1", 1);
        worth(TOP + "= -" + TOP + "-2", 1);
        worth(ROUND + "=0", 1);
        worth("not " + ROUND, 1);
        worth("not (" + TOP + "+1)", 0);
        worth("1 and " + ROUND, 0);
        worth("0 or " + ROUND, 0);
        worth("1 and " + TOP + "+1", 1);
        worth("0 or " + TOP + "+1", 1);
    }

    /** HOLD of a TUCK of NUMBER 0 that rubs one: 1, and rub. */
    private static void hold(String rub, int want) {
        NestsByKnots n = Due.ruled("rub " + rub + ";next 0;take 0;");
        n.lay(0, 1, 0);
        n.lay(0, 1, 0);
        Due.is("6: hold by rub " + rub, n.told(0, 8), 1 + want);
    }

    private static void rub() {
        hold(TOP, 99);
        hold(TOP + "+1", 0);
        hold("-" + TOP + "-1", 0);
        hold("-" + TOP + "-2", 99);
        hold(ROUND, 0);
        hold(ROUND + "+50", 50);
        hold(ROUND + "+99", 99);
        hold(ROUND + "+100", 99);
        hold(ROUND + "-1", 0);
        hold("4096*4096*128", 0);
    }

    private static void next() {
        // the least int at x 0, less by 1, which is the greatest, at x 1
        NestsByKnots n = Due.ruled("rub 0;next " + TOP + "+1-x;take 0;");
        Due.is("16: the greatest by a wrap", n.next(1), 101);
        Due.is("15: the greatest by a wrap", n.good(101), MOST);
        Due.is("15: the least", n.good(1), LEAST);
        Due.is("15: the least is not NO", n.good(1) == NestsByKnots.NO ? 1 : 0, 0);
        NestsByKnots like = Due.ruled("rub 0;next (" + TOP + "+1)*(x+1);take 0;");
        Due.is("16: 0 at x 1, of like ones the first", like.next(5), 115);
        Due.is("17: there", like.build(5, 1), 1);
        Due.is("17: there", like.told(0, 1), 115);
    }

    private static void take() {
        Due.is("19: wraps to 0", Due.ruled("rub 0;next 0;take " + ROUND + ";").takes(), 0);
        Due.is("19: wraps to 1", Due.ruled("rub 0;next 0;take " + ROUND + "+1;").takes(), 1);
        Due.is("19: wraps to the least", Due.ruled("rub 0;next 0;take " + TOP + "+1;").takes(), 1);
        Due.is("19: wraps below 0", Due.ruled("rub 0;next 0;take " + TOP + "*2;").takes(), 1);
    }

    private static void when() {
        // 2 to the 26th times so much is 0 when that is 64
        Due.is("20: at a wrap", Due.ruled("rub 0;next 0;take 4096*4096*4*(age+1);").when(), 63);
        Due.is("20: at a later wrap", Due.ruled("rub 0;next 0;take 4096*4096*(age+56);").when(), 200);
        Due.is("20: too late", Due.ruled("rub 0;next 0;take 4096*4096*(age+55);").when(), NestsByKnots.NONE);
    }

    private static void bytesOfANumber() {
        long[] above = {0, -1, 1, Long.MIN_VALUE, Long.MAX_VALUE, 0x2020202020202020L};
        for (long junk : above) {
            NestsByKnots n = new NestsByKnots();
            String text = "rub 7;next 7;take 7; \n \n \n \n \n \n \n \n";
            int size = 0;
            for (int many = 1; many <= 8; many++) {
                feed(n, text.substring(size, size + many), junk);
                size += many;
            }
            Due.is("8: all of it", size, text.length());
            Due.is("8: so many, lowest first, below " + junk, n.text(), 1);
            n.force(1);
            Due.is("15: by it", n.good(1), 7);
        }
        NestsByKnots high = new NestsByKnots();
        Due.is("8: the least long", high.feed(8, Long.MIN_VALUE | 0x20202020202020L), 8);
        Due.is("9: its highest byte comes last", high.text(), -107);
        Due.is("8: the greatest long", high.feed(8, Long.MAX_VALUE), 8);
        Due.is("9: its lowest byte comes first", high.text(), -100);
    }

    /** Feeds what a text's signs are; above them, where they leave room, stands something else. */
    private static void feed(NestsByKnots n, String text, long above) {
        long bytes = text.length() < 8 ? above << (8 * text.length()) : 0;
        for (int i = 0; i < text.length(); i++) {
            bytes |= (long) text.charAt(i) << (8 * i);
        }
        n.feed(text.length(), bytes);
    }

    /** The strip that came of three items of a sheet. */
    private static void came(int sort, int kind, int where, int number, int dueKind, int dueWhere, int dueNumber) {
        NestsByKnots n = new NestsByKnots();
        n.sheet(0, sort, 3);
        Scenes.three(n, 0, 0, kind, where, number);
        String what = "30: sort " + sort + " of " + kind + ", " + where + ", " + number;
        Due.is(what, n.strips(0, sort, 0, 1), 1);
        Due.is(what + ", kind", n.told(0, 0), dueKind);
        Due.is(what + ", where", n.told(0, 1), dueWhere);
        Due.is(what + ", number", n.taken(0, 0), dueNumber);
    }

    /** None came of three items of a sheet. */
    private static void left(int sort, int kind, int where, int number) {
        NestsByKnots n = new NestsByKnots();
        n.sheet(0, sort, 3);
        Scenes.three(n, 0, 0, kind, where, number);
        Due.is("30: sort " + sort + " of " + kind + ", " + where + ", " + number, n.strips(0, sort, 0, 1), 0);
    }

    private static void cellsOfBytes() {
        came(0, 0, 115, 9, 0, 115, 9);
        came(0, 256, 256 + 115, 256 + 9, 0, 115, 9);
        came(0, -256, -256 + 115, -256 + 9, 0, 115, 9);
        came(0, LEAST, LEAST + 1, LEAST + 5, 0, 1, 5);
        came(0, 0x12345603, 0x12345605, 0x7FFFFF07, 3, 5, 7);
        left(0, 128, 1, 1);
        left(0, 127, 1, 1);
        left(0, -1, 1, 1);
        left(0, 255, 1, 1);
        left(0, MOST, 1, 1);
        left(0, 0, 256, 1);
        // 127 and below is the greatest byte; behind it come those below 0
        left(0, 0, 127, 1);
        left(0, 0, 201, 1);
        left(0, 0, 255, 1);
    }

    private static void cellsOfShorts() {
        came(1, 0, 2401, 9, 0, 2401, 9);
        came(1, 65536, 65536 + 2401, 65536 + 9, 0, 2401, 9);
        came(1, -65536, -65536 + 2401, -65536 + 9, 0, 2401, 9);
        came(1, LEAST, LEAST + 1, LEAST + 5, 0, 1, 5);
        came(1, 0x12340003, 0x12340005, 0x7FFF0007, 3, 5, 7);
        left(1, 256, 1, 1);
        left(1, 32767, 1, 1);
        left(1, 32768, 1, 1);
        left(1, 65535, 1, 1);
        left(1, MOST, 1, 1);
        left(1, 0, 65536, 1);
    }

    private static void cellsOfInts() {
        came(2, 0, 2401, 9, 0, 2401, 9);
        left(2, 256, 1, 1);
        left(2, 65536, 1, 1);
        left(2, LEAST, 1, 1);
        left(2, 0, 65536 + 1, 1);
        left(2, 0, LEAST + 1, 1);
        left(2, 0, 1, LEAST);
        left(2, 0, 1, 65536 + 1);
        left(2, MOST, MOST, MOST);
    }

    private static void copies() {
        int[][] outside = {{1, 0, MOST}, {0, 1, MOST}, {MOST, 0, 1}, {0, MOST, 1}, {MOST, MOST, MOST}, {MOST, 0, MOST},
            {0, MOST, MOST}, {2, 0, MOST - 1}, {0, 2, MOST - 1}, {LEAST, 0, 0}, {0, LEAST, 0}, {LEAST, LEAST, LEAST},
            {LEAST, 0, MOST}, {0, LEAST, MOST}, {0, 0, LEAST}, {1, 0, LEAST}, {MOST, 0, LEAST}, {0, MOST, LEAST},
            {-1, 0, 1}, {0, -1, 1}, {12, 0, LEAST}, {LEAST, 0, LEAST}};
        for (int[] p : outside) {
            String call = "31: copy(0, " + p[0] + ", 0, " + p[1] + ", " + p[2] + ")";
            Refused.by(call, Scenes::some, OUTSIDE, n -> n.copy(0, p[0], 0, p[1], p[2]));
        }
    }

    private static void stripsOfSheets() {
        int[] outside = {MOST, MOST - 1, MOST - 2, MOST - 3, MOST - 35, LEAST, LEAST + 1, LEAST + 2, LEAST + 12, -1, -2, -3};
        for (int from : outside) {
            for (int many = 1; many <= 12; many += 11) {
                int n = many;
                Refused.by("32: from " + from + ", " + n, Scenes::some, OUTSIDE, m -> m.strips(0, 0, from, n));
            }
        }
    }
}
