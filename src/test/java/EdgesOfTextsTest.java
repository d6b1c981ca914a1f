import java.util.ArrayList;
import java.util.List;

/** Where the terms of TEXTS turn over: tokens, faults, what is open, the bounds of what a text comes to. */
public final class EdgesOfTextsTest {
    private static final String FIRST = "rub 3 ; next cross * 2 - y ; take 3 < y and 4 < x ;";
    private static final String[] WORDS = {"x", "y", "cross", "long", "age", "strips", "rub", "next", "take", "or", "and", "not"};

    public static void main(String[] args) {
        theFirst();
        everyBeginning();
        everyByteMore();
        digits();
        longTokens();
        wordsNearby();
        wordsInTheirPlaces();
        fiveOpen();
        endedOnes();
        openThroughWhatTheyBelongTo();
        openOverParts();
        upToTheLastByte();
        gone();
        rubBounds();
        rubNames();
        nextNames();
        takeNames();
        theFirstTake();
        force();
        Due.end("EdgesOfTextsTest");
    }

    private static void fault(String text, int place) {
        Due.is("9: \"" + text + "\"", Due.text(new NestsByKnots(), text), -100 - place);
    }

    private static void good(String text) {
        Due.is("9: \"" + text + "\"", Due.text(new NestsByKnots(), text), 1);
    }

    /** TEXT 0 is as it is told: one fed with the same bytes does the same. */
    private static void theFirst() {
        Due.is("9: one text at first", new NestsByKnots().count(3), 1);
        Due.is("9: it is the rule", new NestsByKnots().count(5), 0);
        Due.is("9: the tape is empty", new NestsByKnots().count(4), 0);
        for (int portion = 1; portion < Asked.PORTIONS; portion++) {
            List<Long> due = Asked.portion(laid(Due.ruled(FIRST)), portion);
            Due.is("9: text 0 is as its bytes are, portion " + portion,
                Asked.portion(laid(new NestsByKnots()), portion).equals(due) ? 1 : 0, 1);
        }
        Due.is("9: so is its take", laid(new NestsByKnots()).takes(), laid(Due.ruled(FIRST)).takes());
        Due.is("9: and later, too", laid(new NestsByKnots()).when(), laid(Due.ruled(FIRST)).when());
    }

    private static NestsByKnots laid(NestsByKnots n) {
        for (int i = 0; i < 9; i++) {
            n.lay(i % 6, Scenes.chained(i), i);
        }
        n.build(3, 3);
        return n;
    }

    /** What ends too early has its FAULT at its size, or at a word that is cut. */
    private static void everyBeginning() {
        for (int size = 0; size < FIRST.length(); size++) {
            String text = FIRST.substring(0, size);
            int word = size;
            while (word > 0 && Character.isLowerCase(text.charAt(word - 1))) {
                word--;
            }
            boolean whole = word == size || List.of(WORDS).contains(text.substring(word));
            fault(text, whole ? size : word);
        }
        good(FIRST);
    }

    private static void everyByteMore() {
        for (int b = 0; b < 256; b++) {
            char sign = (char) b;
            if (sign == ' ' || sign == '\n') {
                good(FIRST + sign);
                good(sign + FIRST);
                good(FIRST.replace(' ', sign));
            } else {
                fault(FIRST + sign, FIRST.length());
                fault(sign + " " + FIRST, 0);
            }
        }
        good("rub 3;next cross*2-y;take 3<y and 4<x;");
    }

    private static void digits() {
        good("rub 0;next 9;take 99;");
        good("rub 999;next 9999;take 0000;");
        good("rub 0001;next 10;take 1000;");
        Due.is("9: 9999", Due.ruled("rub 0;next 9999;take 0;").good(1), 9999);
        Due.is("9: 0099", Due.ruled("rub 0;next 0099;take 0;").good(1), 99);
        Due.is("9: 1000", Due.ruled("rub 0;next 1000;take 0;").good(1), 1000);
        fault("rub 10000;next 0;take 0;", 4);
        fault("rub 00000;next 0;take 0;", 4);
        fault("rub 0;next 12345;take 0;", 11);
        fault("rub 0;next 0;take 99999;", 18);
        fault("rub 0;next 0;take 0;00000", 20);
        fault("rub 9999 9;", 9);
        fault("rub 00000000000000000000000000000000000000000000000000;", 4);
        fault("rub 0123456789012345678901234567890123456789", 4);
    }

    /** TOKENS are as long as can be. */
    private static void longTokens() {
        good("rub 3;next x;take x;");
        fault("rub 3x;", 5);
        fault("rub x3;", 5);
        fault("rubx;", 0);
        fault("rub notx;", 4);
        good("rub not x;next 0;take 0;");
        fault("rub xorx;", 4);
        fault("rub x orx;", 6);
        good("rub 1or 2and 3;next 0;take 0;");
        good("rub(1)or(2)and(3);next(0);take(0);");
        good("rub--1;next-1;take-x;");
        fault("rub 1 ;nexttake", 7);
        fault("rub 1 2", 6);
        fault("rub x y", 6);
        fault("rub strips strips", 11);
    }

    /** A word less or more by a letter is none, unless it is another. */
    private static void wordsNearby() {
        List<String> near = new ArrayList<>();
        for (String word : WORDS) {
            near.add(word.substring(1));
            near.add(word.substring(0, word.length() - 1));
            for (char c = 'a'; c <= 'z'; c++) {
                near.add(word + c);
                near.add(c + word);
                near.add(c + word.substring(1));
                near.add(word.substring(0, word.length() - 1) + c);
            }
        }
        for (String word : near) {
            if (!word.isEmpty() && !List.of(WORDS).contains(word)) {
                fault("rub " + word + ";", 4);
                fault("rub 0 " + word + " 0;", 6);
                fault(word + " 0;", 0);
            }
        }
    }

    /** NAMES stand where a ONE is due, KEYS where they are told, and nowhere else. */
    private static void wordsInTheirPlaces() {
        for (int i = 0; i < WORDS.length; i++) {
            String word = WORDS[i];
            if (i < 6) {
                good("rub " + word + ";next " + word + ";take " + word + ";");
                fault("rub 0 " + word + ";", 6);
                fault(word + " 0;", 0);
            } else {
                fault("rub 0+" + word + " 0;", 6);
                fault("rub 0*" + word + " 0;", 6);
                fault("rub 0<" + word + " 0;", 6);
                fault("rub 0=" + word + " 0;", 6);
                fault("rub -" + word + " 0;", 5);
                if (!word.equals("not")) {
                    fault("rub " + word + " 0;", 4);
                    fault("rub (" + word + " 0);", 5);
                    fault("rub not " + word + " 0;", 8);
                    fault("rub 0 or " + word + " 0;", 9);
                    fault("rub 0 and " + word + " 0;", 10);
                }
            }
        }
        for (String word : WORDS) {
            if (!word.equals("or") && !word.equals("and")) {
                fault("rub 0 " + word + " 0;", 6);
                fault("rub (0) " + word + " 0;", 8);
            }
            if (!word.equals("rub")) {
                fault(word + " 0;next 0;take 0;", 0);
            }
            if (!word.equals("next")) {
                fault("rub 0;" + word + " 0;take 0;", 6);
            }
            if (!word.equals("take")) {
                fault("rub 0;next 0;" + word + " 0;", 13);
            }
            fault("rub 0;next 0;take 0;" + word, 20);
        }
        good("rub not 0;next (not 0);take not not 0 or not 0 and not 0;");
        fault("next 0;rub 0;take 0;", 0);
        fault("take 0;", 0);
        fault("rub 0;take 0;next 0;", 6);
        fault("rub 0;next 0;rub 0;", 13);
    }

    /** All ways to have so many of ( not - open; a not does not stand behind a -. */
    private static List<String> opened(int many) {
        List<String> ways = new ArrayList<>();
        if (many == 0) {
            ways.add("");
            return ways;
        }
        for (String way : opened(many - 1)) {
            ways.add(way + "(");
            ways.add(way + "-");
            if (!way.endsWith("-")) {
                ways.add(way + "not ");
            }
        }
        return ways;
    }

    private static String closed(String opened) {
        return opened.replaceAll("[^(]", "").replace('(', ')');
    }

    private static void fiveOpen() {
        for (int many = 0; many <= 5; many++) {
            for (String way : opened(many)) {
                good("rub 0;next " + way + "x" + closed(way) + ";take 0;");
            }
        }
        for (String way : opened(5)) {
            String begun = "rub 0;next " + way;
            fault(begun + "(x)" + closed(way) + ";take 0;", begun.length());
            fault(begun + "-x" + closed(way) + ";take 0;", begun.length());
            fault(begun + "not x" + closed(way) + ";take 0;", begun.length());
        }
    }

    /** What has ended is open no more. */
    private static void endedOnes() {
        good("rub (((((0)))))+(((((0)))))*(((((0)))));next 0;take 0;");
        good("rub (((((0)+(0))+(0))+(0))+(0));next 0;take 0;");
        good("rub -----0------0;next 0;take 0;");
        good("rub -----0*-----0;next 0;take 0;");
        good("rub -(---0)-(---0);next 0;take 0;");
        good("rub -(((0)))*(((((0)))));next 0;take 0;");
        good("rub not not not not not 0 and not not not not not 0;next 0;take 0;");
        good("rub not not not not not 0 or not not not not not 0;next 0;take 0;");
        good("rub not 0 and (((((0)))));next 0;take 0;");
        good("rub not not 0=0 or (((((0)))));next 0;take 0;");
        good("rub (not not 0)+(((((0)))));next 0;take 0;");
        good("rub ((not not 0)+((((0)))));next 0;take 0;");
        fault("rub ((((((0))))));", 9);
        fault("rub (((((0)))))+((((((0))))));", 21);
        fault("rub -----0-------0;", 16);
        fault("rub -(----0);", 9);
        fault("rub ((not not 0)+(((((0))))));", 21);
    }

    /** A not is open till its NOT ends, through sums and comparisons; a - till its ONE does. */
    private static void openThroughWhatTheyBelongTo() {
        good("rub not 0+((((0))));next 0;take 0;");
        fault("rub not 0+(((((0)))));", 14);
        good("rub not 0=((((0))));next 0;take 0;");
        fault("rub not 0=(((((0)))));", 14);
        good("rub not 0*----0;next 0;take 0;");
        fault("rub not 0*-----0;", 14);
        fault("rub not 0<0-(((((0)))));", 16);
        good("rub not not not not (0)+(0);next 0;take 0;");
        fault("rub not not not not not (0);", 24);
        good("rub -0*(((((0)))));next 0;take 0;");
        fault("rub -(((((0)))));", 9);
        good("rub -0-(((((0)))));next 0;take 0;");
        good("rub -(0)-(((((0)))));next 0;take 0;");
    }

    /** A part begins with nothing open. */
    private static void openOverParts() {
        good("rub (((((0)))));next (((((0)))));take (((((0)))));");
        good("rub not not not not not 0;next not not not not not 0;take -----0;");
        good("rub -----0;next -----0;take not not not not not 0;");
        fault("rub (0;next 0;take 0;", 6);
        fault("rub 0);next 0;take 0;", 5);
        fault("rub 0;next ((0);take 0;", 15);
        fault("rub 0;next 0;take (((((0))));", 28);
    }

    /** A token may end with the 160th byte. */
    private static void upToTheLastByte() {
        String[] ends = {"9999", "x", "strips", "not", "(", "-", "0", "99999", "stripsx", ";", "?"};
        int[] places = {160, 160, 160, 160, 160, 160, 160, 155, 153, 159, 159};
        for (int i = 0; i < ends.length; i++) {
            StringBuilder text = new StringBuilder("rub ");
            while (text.length() + ends[i].length() < 160) {
                text.append(' ');
            }
            fault(text.append(ends[i]).toString(), places[i]);
        }
    }

    /** Nothing is left on the tape of what was read there, by a FAULT or as a TEXT. */
    private static void gone() {
        String[] ahead = {"9999999999999999999999999", "xxxxxxxxxxxxxxxxxxxxxxxxx", "                         ",
            ";;;;;;;;;;;;;;;;;;;;;;;;;", "rub 0;next 0;take 0;     ", "\n\n\n\n\n\n\n\n\n\n\n\n\n\n\n\n"};
        String[] texts = {"rub 1234", "rub x", "rub", "rub 1", "rub 0;next 0;take 0", "rub 0 "};
        for (String old : ahead) {
            for (String text : texts) {
                NestsByKnots n = new NestsByKnots();
                Due.text(n, old);
                Due.is("9: the tape is empty", n.count(4), 0);
                Due.is("9: \"" + text + "\" ends too early behind \"" + old + "\"", Due.text(n, text), -100 - text.length());
                Due.is("9: \"" + old + "\" once more", Due.text(n, "rub 0;next 0;take 0;") > 0 ? 1 : 0, 1);
            }
        }
    }

    /** rub is 0 .. 99, else the bound: HOLD of a TUCK of NUMBER 0 that rubs one is 1, and rub. */
    private static void rubBounds() {
        int[] rubs = {-9999, -100, -99, -2, -1, 0, 1, 2, 98, 99, 100, 101, 255, 256, 9999};
        for (int rub : rubs) {
            NestsByKnots n = Due.ruled("rub " + rub + ";next 0;take 0;");
            n.lay(0, 1, 0);
            n.lay(0, 1, 0);
            Due.is("6: hold by rub " + rub, n.told(0, 8), 1 + Math.max(0, Math.min(99, rub)));
            Due.is("11: not by its hold, rub " + rub, n.pull(0, 1 + Math.max(0, Math.min(99, rub)), 0), 0);
        }
    }

    private static void rubNames() {
        String[] names = {"x", "y", "cross", "long", "age", "strips"};
        int[] least = {0, 0, 1, 1, 0, 2};
        int[] most = {4, 4, 15, 5, 99, 16};
        for (int i = 0; i < names.length; i++) {
            NestsByKnots n = Due.ruled("rub " + names[i] + ";next 0;take 0;");
            n.lay(0, 1, 0);
            n.lay(0, 1, 0);
            Due.is("6: least " + names[i], n.told(0, 8), 1 + least[i]);
            NestsByKnots m = Due.ruled("rub " + names[i] + ";next 0;take 0;");
            m.lay(0, i == 3 ? 15 : 2401, 0);
            for (int strip = 1; strip < 16; strip++) {
                m.lay(0, i == 3 ? 1 : 2401, 0);
            }
            m.hours(99);
            m.hours(99);
            Due.is("6: most " + names[i], m.told(0, 8), 1 + most[i]);
        }
    }

    private static void nextNames() {
        String[] names = {"x", "y", "cross", "long", "age", "strips"};
        int[] due = {4, 4, 16, 1, 0, 16};
        for (int i = 0; i < names.length; i++) {
            NestsByKnots n = Due.ruled("rub 0;next " + names[i] + ";take 0;");
            Due.is("15: least " + names[i], n.good(1), names[i].equals("long") ? 1 : 0);
            for (int strip = 0; strip < 16; strip++) {
                n.lay(0, 2401, 0);
            }
            n.hours(99);
            Due.is("15: most " + names[i], n.good(2401), due[i]);
            Due.is("15: so is long 5 " + names[i], n.good(2005), names[i].equals("x") ? 0 : names[i].equals("long") ? 5 : due[i]);
        }
    }

    /** take of x, y, cross, long, age, strips: nothing there, and all there is. */
    private static void takeNames() {
        String[] names = {"x", "y", "cross", "long", "age", "strips"};
        int[] most = {25, 16, 1 + 3, 0, 9999, 16};
        for (int i = 0; i < names.length; i++) {
            Due.is("19: none " + names[i], Due.ruled("rub 3;next 0;take " + names[i] + "=0;").takes(), 1);
            NestsByKnots n = Due.ruled("rub 3;next 0;take " + names[i] + "=" + most[i] + ";");
            while (n.hours(99) != NestsByKnots.FULL) {
                Due.is("19: not yet", names[i].equals("long") || n.takes() == 0 || n.count(1) == 9999 ? 1 : 0, 1);
            }
            for (int strip = 0; strip < 16; strip++) {
                n.lay(strip == 0 ? 0 : 4, strip == 0 ? 1 : strip < 6 ? 500 * (strip - 1) + 5 : 5, strip == 0 ? 0 : 9);
            }
            Due.is("19: most " + names[i], n.takes(), 1);
        }
    }

    /** By TEXT 0 she takes it from 4 green STRIPS and 5 CROSSINGS on. */
    private static void theFirstTake() {
        for (int strips = 0; strips <= 6; strips++) {
            for (int many = 1; many <= 5; many++) {
                for (int more = 0; more <= 1; more++) {
                    NestsByKnots n = new NestsByKnots();
                    for (int i = 0; i < strips; i++) {
                        n.lay(0, i == 0 && more == 1 ? 501 : many, 0);
                    }
                    int crossings = n.count(7);
                    Due.is("19: " + strips + " on " + crossings, n.takes(), strips >= 4 && crossings >= 5 ? 1 : 0);
                }
            }
        }
    }

    private static void force() {
        NestsByKnots n = new NestsByKnots();
        Due.is("10: text 1 is none yet", n.force(1), NestsByKnots.BAD);
        Due.is("9: text 1", Due.text(n, "rub 0;next 7;take 0;"), 1);
        Due.is("10: a text is no rule till it is forced", n.good(1), 0);
        Due.is("10: text 2 is none yet", n.force(2), NestsByKnots.BAD);
        Due.is("10: the last one", n.force(1), 0);
        Due.is("10: by it", n.good(1), 7);
        Due.is("10: the rule itself", n.force(1), 1);
        Due.is("10: the first one", n.force(0), 1);
        Due.is("9: a fault is no text", Due.text(n, "rub 0;next 8;take ;"), -118);
        Due.is("10: so text 2 is none yet", n.force(2), NestsByKnots.BAD);
        Due.is("10: and the rule is as it was", n.count(5), 0);
    }
}
