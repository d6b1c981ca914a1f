/** Promises 11 to 14: pull, pulled, falls, least. */
public final class PullsTest {
    public static void main(String[] args) {
        promise11();
        promise11Rounds();
        promise11AtOnce();
        promise11ByWhatItCrossesThen();
        promise11SixteenRounds();
        promise12();
        promise13();
        promise14();
        promise14Order();
        promise14LeastThen();
        promise14Sixteen();
        Due.end("PullsTest");
    }

    private static final int[] NO_CROSSINGS = {-1, 25, Integer.MIN_VALUE, Integer.MAX_VALUE};
    private static final int[] NO_PULLS = {0, -1, 1000, Integer.MIN_VALUE, Integer.MAX_VALUE};

    private static void promise11() {
        NestsByKnots n = new NestsByKnots();
        n.lay(0, 15, 4);
        n.lay(0, 2005, 9);
        n.lay(0, 1201, 9);
        // strip 0 holds 5 + 3, strip 1 10 + 3, and strip 2 hangs by nothing
        Due.is("11: as strong as it holds", n.pull(10, 8, 0), 0);
        Due.is("11: but what falls comes out", n.pull(10, 8, 1), 4);
        Due.is("11: stronger", n.pull(10, 9, 0), 1);
        Due.is("11: all hung by it", n.pull(10, 9, 1), 7);
        Due.is("11: both at once", n.pull(20, 14, 0), 3);
        // at 20 strip 0 goes first; strip 1 holds 10 then
        Due.is("11: by what lies there then", n.pull(20, 11, 0), 3);
        Due.is("11: not by less", n.pull(20, 10, 0), 1);
        Due.is("11: nothing there", n.pull(14, 999, 0), 0);
        Due.is("11: nothing is taken out", n.count(0), 3);
        for (int crossing : NO_CROSSINGS) {
            Due.is("11: crossing " + crossing, n.pull(crossing, 1, 0), NestsByKnots.BAD);
        }
        for (int strong : NO_PULLS) {
            Due.is("11: strong " + strong, n.pull(0, strong, 0), NestsByKnots.BAD);
        }
        Due.is("11: what -1", n.pull(0, 1, -1), NestsByKnots.BAD);
        Due.is("11: what 2", n.pull(0, 1, 2), NestsByKnots.BAD);
    }

    private static void promise11Rounds() {
        // each rubs one that adds as much as there are strips: they go one by one
        NestsByKnots n = Due.ruled("rub strips;next 0;take 0;");
        n.lay(0, 1, 0);
        n.lay(0, 1, 2);
        n.lay(0, 1, 4);
        // holds by three: 4, 6, 8; by two: 5, 7; by one: 5
        Due.is("11: too weak", n.pull(0, 4, 0), 0);
        Due.is("11: one, and then no more", n.pull(0, 5, 0), 1);
        Due.is("11: all, one by one", n.pull(0, 6, 0), 7);
        NestsByKnots far = new NestsByKnots();
        far.lay(0, 5, 9);
        far.lay(1, 5, 0);
        // strip 1 holds 3 + 5 * 3, strip 0 10 + 5 * 3
        Due.is("11: rubs along all of it", far.pull(4, 18, 0), 0);
        Due.is("11: the one", far.pull(4, 19, 0), 3);
    }

    /** All whose HOLD is less come out at once, though without one of them another one would hold more. */
    private static void promise11AtOnce() {
        NestsByKnots n = Due.ruled("rub 9*(strips<3);next 0;take 0;");
        n.lay(0, 1, 0);
        n.lay(0, 1, 0);
        n.lay(4, 1, 9);
        // by three nothing is added by a rub: 1, 1, 33; by two 9
        Due.is("11: both at once", n.pull(0, 2, 0), 3);
        Due.is("11: both come out", n.pull(0, 2, 1), 3);
        Due.is("14: one by one the other holds more, and the last most", n.least(0, 0), 34);
        Due.is("12: both are gone", n.pulled(0, 2), 2);
        Due.is("12: the third stays", n.at(0), 4);
        // strip 2 holds 3 as long as four are there, and 3 + 18 when strip 0 has come out
        NestsByKnots m = Due.ruled("rub 9*(strips<4);next 0;take 0;");
        m.lay(0, 1, 0);
        m.lay(0, 101, 0);
        m.lay(1, 2, 0);
        m.lay(4, 1, 9);
        Due.is("11: too strong then", m.pull(0, 3, 0), 1);
        Due.is("11: as long as four are there", m.pull(0, 4, 0), 5);
        Due.is("11: what lies elsewhere stays", m.pull(1, 2, 0), 2);
    }

    /** What has come out is crossed no more: the rule's cross is less then. */
    private static void promise11ByWhatItCrossesThen() {
        NestsByKnots n = Due.ruled("rub cross;next 0;take 0;");
        n.lay(0, 1, 0);
        n.lay(0, 1, 1);
        n.lay(0, 1, 9);
        // by two that each crosses: 1 + 2, 2 + 2, 10 + 2; then by one: 2 + 1, 10 + 1; then 10
        Due.is("11: none", n.pull(0, 3, 0), 0);
        Due.is("11: one, and another one then", n.pull(0, 4, 0), 3);
        Due.is("11: and the last one", n.pull(0, 11, 0), 7);
        NestsByKnots m = Due.ruled("rub 5-cross;next 0;take 0;");
        for (int i = 0; i < 3; i++) {
            m.lay(0, 1, 0);
        }
        // 1 + 3, then 1 + 4, then 1
        Due.is("14: by what it crosses then", m.least(0, 0), 6);
        Due.is("11: all three hold by 3", m.pull(0, 4, 0), 0);
        Due.is("11: all at once", m.pull(0, 5, 0), 7);
    }

    private static void promise11SixteenRounds() {
        // the oldest is as old as there are strips, and so are the next ones when it has come out
        NestsByKnots n = Due.ruled("rub 99*(age<strips);next 0;take 0;");
        for (int i = 0; i < 16; i++) {
            n.lay(0, 1, 0);
            n.hours(1);
        }
        Due.is("11: sixteen, one by one", n.pull(0, 2, 0), 65535);
    }

    private static void promise12() {
        NestsByKnots n = new NestsByKnots();
        n.lay(0, 15, 4);
        n.lay(0, 2005, 9);
        n.lay(0, 1201, 9);
        n.lay(0, 2, 9);
        for (int crossing : NO_CROSSINGS) {
            Due.is("12: crossing " + crossing, n.pulled(crossing, 1), NestsByKnots.BAD);
        }
        for (int strong : NO_PULLS) {
            Due.is("12: strong " + strong, n.pulled(0, strong), NestsByKnots.BAD);
        }
        Due.is("12: nothing is gone", n.count(0), 4);
        Due.is("12: what fell goes, too", n.pulled(24, 1), 1);
        Due.is("12: strip 2 is gone", n.told(2, 0), -5);
        Due.is("12: and nothing more", n.pulled(24, 1), 0);
        Due.is("12: strip 0 and what it held", n.pulled(10, 999), 2);
        Due.is("12: strip 3 hangs", n.at(0), 8);
        Due.is("12: none is at its end", n.at(20), 0);
        Due.is("12: covered", n.count(7), 2);
        Due.is("12: least free", n.lay(0, 1, 0), 0);
    }

    private static void promise13() {
        NestsByKnots n = new NestsByKnots();
        Due.is("13: none", n.falls(), 0);
        n.lay(0, 2401, 0);
        Due.is("13: by nothing", n.falls(), 1);
        n.lay(0, 2301, 0);
        Due.is("13: side by side is no crossing", n.falls(), 3);
        n.lay(0, 2302, 0);
        Due.is("13: two on one that falls", n.falls(), 7);
        n.lay(0, 914, 0);
        Due.is("13: below the twig", n.falls(), 15);
        n.lay(0, 411, 0);
        Due.is("13: on the twig, but meeting none", n.falls(), 15);
        n.lay(0, 412, 0);
        Due.is("13: hung by a chain", n.falls(), 0);
        n.out(2);
        Due.is("13: without a link", n.falls(), 2);
        NestsByKnots chain = new NestsByKnots();
        // a staircase whose last step was laid first
        chain.lay(0, 2302, 0);
        chain.lay(0, 1812, 0);
        chain.lay(0, 1702, 0);
        chain.lay(0, 1212, 0);
        chain.lay(0, 1102, 0);
        chain.lay(0, 612, 0);
        chain.lay(0, 502, 0);
        Due.is("13: all fall", chain.falls(), 127);
        chain.lay(0, 12, 0);
        Due.is("13: all hang", chain.falls(), 0);
    }

    private static void promise14() {
        NestsByKnots n = new NestsByKnots();
        n.lay(0, 15, 4);
        n.lay(0, 2005, 9);
        n.lay(0, 1201, 9);
        Due.is("14: strip 0 alone there", n.least(10, 0), 9);
        Due.is("14: all fall then", n.least(10, 1), 0);
        Due.is("14: strip 0, then 1", n.least(20, 0), 11);
        Due.is("14: strip 2 falls", n.least(20, 1), 0);
        Due.is("14: the end of strip 1", n.least(24, 0), 14);
        Due.is("14: strip 0 hangs", n.least(24, 1), 1);
        Due.is("14: nothing there", n.least(1, 0), NestsByKnots.NONE);
        Due.is("14: nothing there", n.least(1, 1), NestsByKnots.NONE);
        for (int crossing : NO_CROSSINGS) {
            Due.is("14: crossing " + crossing, n.least(crossing, 0), NestsByKnots.BAD);
        }
        Due.is("14: what -1", n.least(0, -1), NestsByKnots.BAD);
        Due.is("14: what 2", n.least(1, 2), NestsByKnots.BAD);
        Due.is("14: nothing is taken out", n.count(0), 3);
    }

    /** Each time the one whose HOLD is least then, though another one's was less ahead. */
    private static void promise14LeastThen() {
        NestsByKnots n = Due.ruled("rub 9*(strips<4);next 0;take 0;");
        n.lay(0, 1, 0);
        n.lay(0, 1, 2);
        n.lay(0, 2, 1);
        n.lay(0, 101, 0);
        // by four: 1, 3, 2; then 3 + 9 and 2 + 18, for strip 2 rubs strip 3, too; then 2 + 9
        Due.is("14: strip 1 goes ahead of strip 2", n.least(0, 0), 13);
        Due.is("14: one is left", n.least(0, 1), 1);
    }

    private static void promise14Sixteen() {
        NestsByKnots n = Due.ruled("rub 0;next 0;take 0;");
        for (int i = 0; i < 15; i++) {
            n.lay(0, 1, 0);
        }
        n.lay(4, 1, 9);
        Due.is("14: the sixteenth holds most", n.least(0, 0), 34);
        Due.is("14: none is left", n.least(0, 1), 0);
    }

    private static void promise14Order() {
        // rub falls with the strips that are there: the last one holds most
        NestsByKnots n = Due.ruled("rub 50-10*strips;next 0;take 0;");
        n.lay(0, 1, 0);
        n.lay(0, 1, 0);
        n.lay(0, 1, 9);
        // by three: 21, 21, 30; by two: 31, 40; the last: 10
        Due.is("14: the greatest in between", n.least(0, 0), 32);
        // of like ones the least: 0 and 2 hold 2, and then 2 alone 1; 0 would hold 10 without 2
        NestsByKnots like = Due.ruled("rub 9*(strips<3)+1;next 0;take 0;");
        like.lay(5, 12, 0);
        like.lay(1, 2, 3);
        like.lay(0, 511, 0);
        Due.is("14: of like ones the least", like.least(5, 0), 3);
        NestsByKnots m = new NestsByKnots();
        m.lay(0, 2, 0);
        m.lay(0, 2, 0);
        m.lay(4, 11, 0);
        // 0 and 1: 1 + 2 * 3; 2: 6 + 2 * 3; then 1: 1 + 3; then 2: 6
        Due.is("14: the first holds most", m.least(0, 0), 8);
        NestsByKnots two = new NestsByKnots();
        two.lay(2, 3, 0);
        two.lay(0, 1, 2);
        two.lay(0, 2, 2);
        two.lay(0, 101, 2);
        Due.is("14: other ones stay", two.least(0, 1), 1);
        Due.is("14: as if alone", two.count(0), 4);
    }
}
