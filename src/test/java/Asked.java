import java.util.ArrayList;
import java.util.List;

/** All that can be asked of an object. It is asked in portions, since an object is used for 512 calls at most. */
final class Asked {
    static final int PORTIONS = 8;

    private Asked() {
    }

    /** What calls that change nothing answer; at most some hundred of them in each portion. */
    static List<Long> portion(NestsByKnots n, int portion) {
        List<Long> answers = new ArrayList<>();
        switch (portion) {
            case 0: told(n, 0, 8, answers); she(n, answers); break;
            case 1: told(n, 8, 16, answers); at(n, answers); break;
            case 2: taken(n, answers); break;
            case 3: good(n, 1, 2, answers); next(n, answers); break;
            case 4: good(n, 3, 5, answers); least(n, answers); break;
            case 5: pull(n, 4, 999, answers); break;
            case 6: pull(n, 12, 30, answers); break;
            default: best(n, answers); later(n, answers); break;
        }
        return answers;
    }

    private static void told(NestsByKnots n, int from, int to, List<Long> answers) {
        for (int strip = from; strip < to; strip++) {
            for (int what = 0; what < 10; what++) {
                answers.add((long) n.told(strip, what));
            }
        }
    }

    private static void she(NestsByKnots n, List<Long> answers) {
        for (int what = 0; what < 8; what++) {
            answers.add((long) n.count(what));
        }
        answers.add((long) n.falls());
        answers.add((long) n.takes());
        answers.add((long) n.when());
        answers.add((long) n.spare());
        answers.add((long) n.holes());
    }

    private static void at(NestsByKnots n, List<Long> answers) {
        for (int crossing = 0; crossing < 25; crossing++) {
            answers.add((long) n.at(crossing));
        }
    }

    private static void taken(NestsByKnots n, List<Long> answers) {
        for (int strip = 0; strip < 16; strip++) {
            for (int kind = 0; kind < 6; kind++) {
                answers.add((long) n.taken(strip, kind));
            }
        }
    }

    private static void good(NestsByKnots n, int from, int to, List<Long> answers) {
        for (int many = from; many <= to; many++) {
            for (int where : places(many)) {
                answers.add(n.good(where));
            }
        }
    }

    /** All that could be laid of a LONG, by first CROSSING, then WAY. */
    static List<Integer> places(int many) {
        List<Integer> places = new ArrayList<>();
        for (int crossing = 0; crossing < 25; crossing++) {
            if (crossing % 5 + many <= 5) {
                places.add(100 * crossing + many);
            }
            if (crossing / 5 + many <= 5) {
                places.add(100 * crossing + 10 + many);
            }
        }
        return places;
    }

    private static void next(NestsByKnots n, List<Long> answers) {
        for (int many = 1; many <= 5; many++) {
            answers.add((long) n.next(many));
        }
    }

    private static void least(NestsByKnots n, List<Long> answers) {
        for (int crossing = 0; crossing < 25; crossing++) {
            answers.add((long) n.least(crossing, 0));
            answers.add((long) n.least(crossing, 1));
        }
    }

    private static void pull(NestsByKnots n, int weak, int strong, List<Long> answers) {
        for (int crossing = 0; crossing < 25; crossing++) {
            for (int what = 0; what < 2; what++) {
                answers.add((long) n.pull(crossing, weak, what));
                answers.add((long) n.pull(crossing, strong, what));
            }
        }
    }

    private static void best(NestsByKnots n, List<Long> answers) {
        for (int kind = 0; kind < 6; kind++) {
            for (int many = 1; many <= 5; many += 2) {
                for (int what = 0; what < 2; what++) {
                    answers.add((long) n.best(kind, 0, many, what));
                    answers.add((long) n.best(kind, 9, many, what));
                }
            }
        }
    }

    private static void later(NestsByKnots n, List<Long> answers) {
        for (int many = 1; many <= 5; many++) {
            answers.add((long) n.closes(many, 0));
            answers.add((long) n.closes(many, 1));
        }
        int[] hours = {0, 1, 24, 25, 72, 79, 98, 99, 999};
        for (int hour : hours) {
            answers.add((long) n.brown(hour));
        }
    }

    /** What only calls that change something lay open: the tape, the texts, the image, the sheets. */
    static List<Long> laidOpen(NestsByKnots n) {
        List<Long> answers = new ArrayList<>();
        answers.add((long) n.text());
        answers.add((long) n.count(4));
        for (int text = 0; text < 6; text++) {
            answers.add((long) n.force(text));
            answers.add(n.good(713));
            answers.add((long) n.told(0, 8));
            answers.add((long) n.takes());
        }
        answers.add((long) n.back());
        she(n, answers);
        for (int strip = 0; strip < 16; strip++) {
            answers.add((long) n.told(strip, 1));
            answers.add((long) n.told(strip, 2));
            answers.add((long) n.out(strip));
        }
        for (int sheet = 0; sheet < 4; sheet++) {
            sheet(n, sheet, answers);
        }
        return answers;
    }

    /** No strips are there: those of a sheet are laid, looked at, and taken out. */
    private static void sheet(NestsByKnots n, int sheet, List<Long> answers) {
        for (int sort = 0; sort < 3; sort++) {
            answers.add((long) n.strips(sheet, sort, 0, 4));
        }
        for (int strip = 0; strip < 4; strip++) {
            answers.add((long) n.told(strip, 0));
            answers.add((long) n.told(strip, 1));
            answers.add((long) n.taken(strip, 0));
            answers.add((long) n.out(strip));
        }
        int[] items = {0, 5, 6, 8, 9, 11, 12, 39, 40};
        for (int item : items) {
            answers.add((long) n.cell(sheet, item, 1));
        }
    }
}
