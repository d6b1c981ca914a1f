/** Promises 8 to 10: feed, text, force. */
public final class TextsTest {
    public static void main(String[] args) {
        promise8();
        promise9Numbers();
        promise9Worth();
        promise9Faults();
        promise9Tokens();
        promise9Bytes();
        promise9Open();
        promise9Full();
        promise10();
        Due.end("TextsTest");
    }

    private static void promise8() {
        NestsByKnots n = new NestsByKnots();
        int[] bad = {0, -1, 9, Integer.MIN_VALUE, Integer.MAX_VALUE};
        for (int count : bad) {
            Due.is("8: feed(" + count + ")", n.feed(count, 0), NestsByKnots.BAD);
        }
        for (int i = 1; i <= 20; i++) {
            Due.is("8: by eight", n.feed(8, 0x2020202020202020L), 8 * i);
        }
        Due.is("8: full", n.feed(1, 32), NestsByKnots.FULL);
        Due.is("8: bad ahead of full", n.feed(9, 32), NestsByKnots.BAD);
        Due.is("8: what it has", n.count(4), 160);
        Due.is("8: all blanks end too early", n.text(), -260);
        for (int i = 1; i <= 19; i++) {
            n.feed(8, 0x2020202020202020L);
        }
        Due.is("8: 153", n.feed(1, 32), 153);
        Due.is("8: 161 would be too many", n.feed(8, 32), NestsByKnots.FULL);
        Due.is("8: 160 are not", n.feed(7, 0x20202020202020L), 160);
        NestsByKnots low = new NestsByKnots();
        Due.is("8: three of eight", low.feed(3, 0x4141414141627572L), 3);
        Due.is("8: and on", low.feed(1, 0x4141414141414120L), 4);
        Due.is("8: rub, and too early", low.text(), -104);
        Due.is("8: bytes from 128 on", low.feed(8, -1), 8);
        Due.is("8: begin nothing", low.text(), -100);
        low.feed(8, 0x8020202020202020L);
        Due.is("8: the highest last", low.text(), -107);
    }

    private static void promise9Numbers() {
        NestsByKnots n = new NestsByKnots();
        Due.is("9: an empty tape", n.text(), -100);
        Due.is("9: first", Due.text(n, "rub 0;next 0;take 0;"), 1);
        Due.is("9: the tape is empty then", n.count(4), 0);
        Due.is("9: fault", Due.text(n, "rub 0;next 0;take 0"), -119);
        Due.is("9: empty by a fault, too", n.count(4), 0);
        Due.is("9: second", Due.text(n, "rub 0;next 0;take 0;"), 2);
        Due.is("9: three with text 0", n.count(3), 3);
        Due.is("9: the rule is as it was", n.count(5), 0);
    }

    /** What next comes to of where 712 (x 2, y 1, cross 1, long 2, age 0, strips 3) by an E. */
    private static void worth(String e, long want) {
        NestsByKnots n = Due.ruled("rub 0;next " + e + ";take 0;");
        n.hours(9);
        n.lay(0, 702, 0);
        n.lay(0, 1, 0);
        n.lay(0, 1, 0);
        Due.is("9: " + e, n.good(712), want);
    }

    private static void promise9Worth() {
        String[] names = {"x", "y", "cross", "long", "age", "strips"};
        int[] values = {2, 1, 1, 2, 0, 3};
        for (int i = 0; i < names.length; i++) {
            worth(names[i], values[i]);
        }
        worth("9999", 9999);
        worth("0007", 7);
        worth("2+3*4", 14);
        worth("2*3+4", 10);
        worth("9-3-2", 4);
        worth("9-3+2", 8);
        worth("-3-2", -5);
        worth("- -3", 3);
        worth("-3*2", -6);
        worth("2*-3", -6);
        worth("2--3", 5);
        worth("(2+3)*4", 20);
        worth("3<4", 1);
        worth("4<4", 0);
        worth("5<4", 0);
        worth("-1<0", 1);
        worth("4=4", 1);
        worth("3=4", 0);
        worth("1+1=2", 1);
        worth("(3<4)+1", 2);
        worth("7 and 8", 1);
        worth("7 and 0", 0);
        worth("0 and 8", 0);
        worth("0 or 8", 1);
        worth("7 or 0", 1);
        worth("0 or 0", 0);
        worth("7", 7);
        worth("(7)", 7);
        worth("not 7", 0);
        worth("not 0", 1);
        worth("not not 7", 1);
        worth("not 3=4", 1);
        worth("not 0 and 0", 0);
        worth("not 0 or 1", 1);
        worth("1 or 0 and 0", 1);
        worth("0 and 0 or 1", 1);
        worth("0 and (0 or 1)", 0);
        worth("2 and 3 and 0-1", 1);
        worth("0 or 0 or 0-1", 1);
        worth("1 and 2=2", 1);
        worth("9999*9999*9999", (int) (9999L * 9999 * 9999));
        worth("9999*9999*22", (int) (9999L * 9999 * 22));
        worth("-(8*4096*4096*16)", Integer.MIN_VALUE);
        worth("8*4096*4096*16-1", Integer.MAX_VALUE);
        worth("8*4096*4096*16<0", 1);
        worth("x*100+y*10+cross", 211);
        worth("1+1+1+1+1+1+1+1+1+1+1+1+1+1+1+1+1+1+1+1+1+1+1+1+1+1+1+1+1+1", 30);
        worth("1+(1+(1+(1+(1+(1)))))", 6);
    }

    private static void fault(String text, int place) {
        Due.is("9: \"" + text + "\"", Due.text(new NestsByKnots(), text), -100 - place);
    }

    private static void good(String text) {
        Due.is("9: \"" + text + "\"", Due.text(new NestsByKnots(), text), 1);
    }

    private static void promise9Faults() {
        fault("next 0;take 0;", 0);
        fault("x", 0);
        fault("rub ;", 4);
        fault("rub 0 0;", 6);
        fault("rub 0;take 0;", 6);
        fault("rub 0;rub 0;", 6);
        fault("rub 0;next 0;take 0;;", 20);
        fault("rub 0;next 0;take 0; x", 21);
        fault("rub 0;next 0;take 0;rub 0;", 20);
        fault("rub 0;next 0;take 0", 19);
        fault("rub 0;next 0;take 0 \n ", 22);
        fault("rub", 3);
        fault("rub 0;", 6);
        fault("rub 0+;", 6);
        fault("rub +0;", 4);
        fault("rub *0;", 4);
        fault("rub 0 and;", 9);
        fault("rub 0 and or 0;", 10);
        fault("rub and 0;", 4);
        fault("rub 0 not 0;", 6);
        fault("rub 0 + not 0;", 8);
        fault("rub - not 0;", 6);
        fault("rub 0 < not 0;", 8);
        fault("rub 0 * not 0;", 8);
        fault("rub 0 < 0 < 0;", 10);
        fault("rub 0 < 0 = 0;", 10);
        fault("rub 0 = 0 = 0;", 10);
        fault("rub (0;", 6);
        fault("rub 0);", 5);
        fault("rub ();", 5);
        fault("rub (0;next 0;take 0;", 6);
        fault("rub rub;", 4);
        fault("rub take;", 4);
        fault("rub (0 < 0) < (0 < ;", 19);
        good("rub (0 < 0) < (0 < 0);next 0 < 0 and 0 < 0;take not 0 < 0 or not 0 = 0;");
        good("rub (not 0) + (not 0);next (0 or 0) * (0 and 0);take - (0);");
    }

    private static void promise9Tokens() {
        good("rub0;next0;take0;");
        good("\n rub\n0 \n;next 0;take 0; \n\n");
        good("rub 9999;next x;take(y);");
        good("rub not(x)and not(y)or-x;next 0;take 0;");
        fault("rubx;", 0);
        fault("rub xy;", 4);
        fault("rub xz;", 4);
        fault("rub xa;", 4);
        fault("rub zx;", 4);
        fault("rub stripsx;", 4);
        fault("rub strip;", 4);
        fault("rub a;", 4);
        fault("rub X;", 4);
        fault("Rub 0;", 0);
        fault("rub 10000;", 4);
        fault("rub 00000;", 4);
        fault("rub 0 10000;", 6);
        fault("rub 12x;", 6);
        fault("rub x1;", 5);
        fault("rub 0\t;", 5);
        fault("rub 0\r;", 5);
        fault("rub 0>0;", 5);
        fault("rub 0/0;", 5);
        fault("rub 0,0;", 5);
        fault("rub 0.0;", 5);
        fault("rub 0:", 5);
        fault("rub 0`", 5);
        fault("rub 0{", 5);
        fault("rub 0" + (char) 0, 5);
        fault("rub 0" + (char) 128, 5);
        fault("rub 0" + (char) 255, 5);
        // the first one tells, though a worse one comes behind it
        fault("rub 0 0 ? 10000;", 6);
        fault("rub 0;;?", 6);
        // five digits that do not stand first are their NUMBER's first byte, too
        fault("rub   123456789;", 6);
    }

    /** Each byte behind an operand, where one is due, and behind the whole. */
    private static void promise9Bytes() {
        for (int b = 0; b < 256; b++) {
            char sign = (char) b;
            fault("rub 0" + sign, " \n;+-*<=0123456789".indexOf(sign) >= 0 ? 6 : 5);
            fault("rub " + sign, " \n(-xy0123456789".indexOf(sign) >= 0 ? 5 : 4);
            String whole = "rub 0;next 0;take 0;" + sign;
            if (sign == ' ' || sign == '\n') {
                good(whole);
            } else {
                fault(whole, 20);
            }
        }
        fault("rub 0;next 0;take 0;12345", 20);
        fault("rub 0;next 0;take 0;xy", 20);
    }

    private static void promise9Open() {
        good("rub (((((0)))));next 0;take 0;");
        fault("rub ((((((0))))));next 0;take 0;", 9);
        good("rub not not not not not 0;next 0;take 0;");
        fault("rub not not not not not not 0;", 24);
        good("rub -----0;next 0;take 0;");
        fault("rub ------0;", 9);
        good("rub not(-(-0));next 0;take 0;");
        good("rub not(not(-0));next 0;take 0;");
        fault("rub not(not(-(0)));", 13);
    }

    private static void promise9Full() {
        NestsByKnots n = new NestsByKnots();
        for (int i = 1; i <= 5; i++) {
            Due.is("9: text " + i, Due.text(n, "rub 0;next 0;take 0;"), i);
        }
        Due.is("9: full ahead of a fault", Due.text(n, "rub"), NestsByKnots.FULL);
        Due.is("9: the tape stays", n.count(4), 3);
        Due.is("9: full by an empty tape", n.text(), NestsByKnots.FULL);
        Due.is("9: six", n.count(3), 6);
    }

    private static void promise10() {
        NestsByKnots n = new NestsByKnots();
        Due.is("10: not yet", n.force(1), NestsByKnots.BAD);
        Due.is("10: below", n.force(-1), NestsByKnots.BAD);
        Due.is("10: itself", n.force(0), 0);
        Due.text(n, "rub 1;next 11;take 1;");
        Due.text(n, "rub 2;next 22;take 2;");
        Due.is("10: to 2", n.force(2), 0);
        Due.is("10: by 2", n.good(1), 22);
        Due.is("10: count", n.count(5), 2);
        Due.is("10: to 1", n.force(1), 2);
        Due.is("10: by 1", n.good(1), 11);
        int[] bad = {3, 6, -1, Integer.MAX_VALUE, Integer.MIN_VALUE};
        for (int text : bad) {
            Due.is("10: force(" + text + ")", n.force(text), NestsByKnots.BAD);
        }
        Due.is("10: nothing changed", n.count(5), 1);
        Due.is("10: back to 0", n.force(0), 1);
        Due.is("10: text 0 is as told", n.good(1201), -2);
        n.lay(0, 1, 0);
        n.lay(0, 1, 0);
        Due.is("10: rub 3", n.told(0, 8), 4);
        Due.is("10: next cross * 2 - y", n.good(11), 4);
    }
}
