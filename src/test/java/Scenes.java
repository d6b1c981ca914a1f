import java.util.List;

/** Objects that tests begin with; each is made anew by the same calls, so two of one scene are alike. */
final class Scenes {
    interface Scene {
        NestsByKnots made();
    }

    private static final List<Scene> ALL = List.of(NestsByKnots::new, Scenes::some, Scenes::full);

    private Scenes() {
    }

    /** A new object, one that holds some of everything, one that is full. */
    static List<Scene> all() {
        return ALL;
    }

    /** STRIPS of all kinds and one missing between, another IMAGE, a text on the tape, a sheet of each sort and none. */
    static NestsByKnots some() {
        NestsByKnots n = Due.ruled("rub 2;next cross*3-x;take 1<strips;");
        n.lay(0, 5, 4);
        n.lay(3, 15, 2);
        n.image();
        n.hours(7);
        n.lay(1, 1203, 7);
        n.lay(2, 712, 3);
        n.lay(4, 1005, 1);
        n.lay(5, 2101, 2);
        n.lay(3, 101, 0);
        n.lay(0, 415, 0);
        n.out(1);
        n.hours(20);
        n.green(25);
        Due.feed(n, "rub 1;next 7;take x;");
        int[] sizes = {12, 9, 6};
        for (int sheet = 0; sheet < 3; sheet++) {
            n.sheet(sheet, sheet, sizes[sheet]);
            three(n, sheet, 0, 2, 102, sheet + 1);
            three(n, sheet, 3, 5, 14, sheet + 4);
        }
        return n;
    }

    /** 16 STRIPS, each hung by the one ahead of it; HOUR 9999, 160 bytes, 6 TEXTS, three sheets of 40, one of 0. */
    static NestsByKnots full() {
        NestsByKnots n = new NestsByKnots();
        for (int text = 1; text <= 5; text++) {
            Due.text(n, "rub " + text + ";next " + text + "-x;take x;");
        }
        n.force(5);
        n.lay(1, 2, 3);
        n.image();
        n.out(0);
        for (int strip = 0; strip < 8; strip++) {
            n.lay(strip % 6, chained(strip), strip);
        }
        for (int hour = 0; hour < 9999; hour += 99) {
            n.hours(99);
        }
        for (int strip = 8; strip < 16; strip++) {
            n.lay(strip % 6, chained(strip), strip % 10);
        }
        n.green(99);
        Due.feed(n, "rub 0;next 0;take 0;");
        for (int size = n.count(4); size < 160; size = n.count(4)) {
            n.feed(Math.min(8, 160 - size), 0x2020202020202020L);
        }
        for (int sheet = 0; sheet < 4; sheet++) {
            n.sheet(sheet, Math.min(sheet, 2), sheet < 3 ? 40 : 0);
            three(n, sheet, 0, 2, 102, sheet + 1);
        }
        return n;
    }

    /** Where the strips 0 .. 15 of a chain lie: down from the twig, and then to and fro. */
    static int chained(int strip) {
        int[] where = {12, 502, 602, 702, 802, 912, 1302, 1202, 1102, 1002, 1012, 1502, 1602, 1702, 1802, 1912};
        return where[strip];
    }

    /** Three items of a sheet, that lay() takes. */
    static void three(NestsByKnots n, int sheet, int item, int kind, int where, int number) {
        n.cell(sheet, item, kind);
        n.cell(sheet, item + 1, where);
        n.cell(sheet, item + 2, number);
    }
}
