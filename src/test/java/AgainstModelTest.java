import java.util.Random;

/** Runs of up to 512 calls with numbers drawn by a fixed seed: the program answers as the model does. */
public final class AgainstModelTest {
    private static final int RUNS = 120;
    // an object is used for so many calls; a turn of a run takes far fewer than what is left then
    private static final int CALLS = 512, LEAST_LEFT = 60;
    private static final int ONE_TEXTS = 20000;
    private static final int[] EDGES = {Integer.MIN_VALUE, -100, -15, -2, -1, 0, 1, 2, 5, 6, 9, 10, 16, 24, 25, 40, 41, 99,
        100, 999, 1000, 9999, Integer.MAX_VALUE};
    private static final String[] PIECES = {"x", "y", "cross", "long", "age", "strips", "0", "1", "2", "3", "7", "12", "9999",
        "0010", "(", ")", "-", "+", "*", "<", "=", "and", "or", "not", ";", "rub", "next", "take", " ", "\n", "12345", "xy", "A", "?",
        "((", "not not", "--"};

    private final Random random;
    private final NestsByKnots nests = new NestsByKnots();
    private final Model model = new Model();
    private final String name;
    private final int smooth;
    private int calls = 0;

    private AgainstModelTest(int seed) {
        random = new Random(seed);
        name = "run " + seed + ", ";
        smooth = 2 + random.nextInt(60);
    }

    public static void main(String[] args) {
        for (int seed = 1; seed <= RUNS; seed++) {
            AgainstModelTest run = new AgainstModelTest(seed);
            while (run.calls <= CALLS - LEAST_LEFT) {
                run.call(run.calls);
            }
        }
        for (int seed = 1; seed <= ONE_TEXTS; seed++) {
            new AgainstModelTest(-seed).oneText();
        }
        Due.end("AgainstModelTest");
    }

    /** A text on a new object, and what it comes to there. */
    private void oneText() {
        text("");
        due("force", nests.force(1), model.force(1));
        lay("");
        lay("");
        int where = place();
        due("good " + where, nests.good(where), model.good(where));
        due("told", nests.told(1, 8), model.told(1, 8));
        due("takes", nests.takes(), model.takes());
    }

    /** A number from low to high, seldom one of the edges. */
    private int number(int low, int high) {
        if (random.nextInt(smooth) == 0) {
            return random.nextBoolean() ? EDGES[random.nextInt(EDGES.length)] : random.nextBoolean() ? low - 1 : high + 1;
        }
        return low + random.nextInt(high - low + 1);
    }

    private int place() {
        if (random.nextInt(smooth) == 0) {
            return number(-5, 2600);
        }
        int many = 1 + random.nextInt(5);
        int along = random.nextInt(6 - many);
        int across = random.nextInt(5);
        return random.nextBoolean() ? 100 * (5 * across + along) + many : 100 * (5 * along + across) + 10 + many;
    }

    private void due(String call, long got, long want) {
        calls++;
        Due.is(name + call, got, want);
    }

    private void call(int i) {
        int a = number(0, 3);
        int b = number(0, 15);
        int c = number(0, 24);
        int what = number(0, 1);
        int many = number(1, 5);
        String at = i + ": ";
        switch (random.nextInt(30)) {
            case 0: case 1: case 2: case 3: lay(at); break;
            case 4: due(at + "out " + b, nests.out(b), model.out(b)); break;
            case 5: hours(at); break;
            case 6: int v = number(1, 99); due(at + "green " + v, nests.green(v), model.green(v)); break;
            case 7: all(at); break;
            case 8: due(at + "at " + c, nests.at(c), model.at(c)); break;
            case 9: case 10: text(at); break;
            case 11: int t = number(0, 5); due(at + "force " + t, nests.force(t), model.force(t)); break;
            case 12: case 13: pull(at, c, what); break;
            case 14: due(at + "falls", nests.falls(), model.falls()); break;
            case 15: due(at + "least " + c + " " + what, nests.least(c, what), model.least(c, what)); break;
            case 16: int w = place(); due(at + "good " + w, nests.good(w), model.good(w)); break;
            case 17: due(at + "next " + many, nests.next(many), model.next(many)); break;
            case 18: int n = number(0, 8); due(at + "build " + many + " " + n, nests.build(many, n), model.build(many, n)); break;
            case 19: best(at, many, what); break;
            case 20: due(at + "takes", nests.takes(), model.takes()); due(at + "when", nests.when(), model.when()); break;
            case 21: due(at + "spare", nests.spare(), model.spare()); break;
            case 22: int l = number(0, 999); due(at + "brown " + l, nests.brown(l), model.brown(l)); break;
            case 23: due(at + "holes", nests.holes(), model.holes()); break;
            case 24: due(at + "closes " + many + " " + what, nests.closes(many, what), model.closes(many, what)); break;
            case 25: due(at + "slipped", nests.slipped(), model.slipped()); break;
            case 26: keep(at); break;
            case 27: case 28: host(at, a); break;
            default: int k = number(0, 5); due(at + "taken " + b + " " + k, nests.taken(b, k), model.taken(b, k)); break;
        }
    }

    private void lay(String at) {
        int kind = number(0, 5);
        int where = place();
        int number = number(0, 9);
        due(at + "lay " + kind + " " + where + " " + number, nests.lay(kind, where, number), model.lay(kind, where, number));
    }

    private void hours(String at) {
        int n = random.nextBoolean() ? number(1, 99) : number(1, 9);
        due(at + "hours " + n, nests.hours(n), model.hours(n));
    }

    private void all(String at) {
        int strip = number(0, 15);
        for (int what = -1; what <= 10; what++) {
            due(at + "told " + strip + " " + what, nests.told(strip, what), model.told(strip, what));
        }
        for (int what = -1; what <= 8; what++) {
            due(at + "count " + what, nests.count(what), model.count(what));
        }
    }

    private void pull(String at, int c, int what) {
        int strong = random.nextBoolean() ? number(1, 30) : number(1, 999);
        due(at + "pull " + c + " " + strong + " " + what, nests.pull(c, strong, what), model.pull(c, strong, what));
        if (random.nextInt(4) == 0) {
            due(at + "pulled " + c + " " + strong, nests.pulled(c, strong), model.pulled(c, strong));
        }
    }

    private void best(String at, int many, int what) {
        int kind = number(0, 5);
        int number = number(0, 9);
        due(at + "best " + kind + " " + number + " " + many + " " + what, nests.best(kind, number, many, what),
            model.best(kind, number, many, what));
    }

    private void keep(String at) {
        if (random.nextBoolean()) {
            due(at + "image", nests.image(), model.image());
        } else {
            due(at + "back", nests.back(), model.back());
        }
    }

    // ---- texts

    private String e(int deep) {
        String[] names = {"x", "y", "cross", "long", "age", "strips"};
        int sort = deep == 0 ? random.nextInt(2) : random.nextInt(12);
        switch (sort) {
            case 0: return names[random.nextInt(6)];
            case 1: return "" + random.nextInt(random.nextBoolean() ? 10 : 10000);
            case 2: return e(deep - 1) + "+" + e(deep - 1);
            case 3: return e(deep - 1) + " - " + e(deep - 1);
            case 4: return e(deep - 1) + "*" + e(deep - 1);
            case 5: return e(deep - 1) + " < " + e(deep - 1);
            case 6: return e(deep - 1) + "=" + e(deep - 1);
            case 7: return e(deep - 1) + " and " + e(deep - 1);
            case 8: return e(deep - 1) + " or " + e(deep - 1);
            case 9: return "not " + e(deep - 1);
            case 10: return "-" + e(deep - 1);
            default: return "(" + e(deep - 1) + ")";
        }
    }

    private String any() {
        StringBuilder text = new StringBuilder("rub " + e(random.nextInt(4)) + ";next " + e(random.nextInt(4)) + ";take "
            + e(random.nextInt(4)) + ";");
        for (int n = random.nextInt(4) - 1; n > 0; n--) {
            int place = random.nextInt(text.length());
            int change = random.nextInt(3);
            if (change < 2) {
                text.deleteCharAt(place);
            }
            if (change > 0) {
                text.insert(place, PIECES[random.nextInt(PIECES.length)]);
            }
        }
        return text.toString();
    }

    private void text(String at) {
        String text = any();
        for (int from = 0; from < text.length(); from += 8) {
            String part = text.substring(from, Math.min(text.length(), from + 8));
            long bytes = random.nextLong();
            for (int i = part.length() - 1; i >= 0; i--) {
                bytes = bytes << 8 | part.charAt(i);
            }
            due(at + "feed " + part, nests.feed(part.length(), bytes), model.feed(part.length(), bytes));
        }
        if (random.nextInt(20) > 0) {
            due(at + "text " + text, nests.text(), model.text());
        }
        int n = number(1, 8);
        if (random.nextInt(20) == 0) {
            due(at + "feed " + n, nests.feed(n, -1), model.feed(n, -1));
        }
    }

    // ---- the host

    private void host(String at, int sheet) {
        int other = number(0, 3);
        int sort = random.nextBoolean() ? number(-1, 2) : 1;
        int i = number(0, 39);
        int n = random.nextBoolean() ? number(0, 12) : number(0, 40);
        switch (random.nextInt(4)) {
            case 0:
                n = random.nextBoolean() ? 40 : n;
                due(at + "sheet " + sheet + " " + sort + " " + n, nests.sheet(sheet, sort, n), model.sheet(sheet, sort, n));
                break;
            case 1:
                due(at + "copy " + sheet + " " + i + " " + other + " " + n, nests.copy(sheet, i, other, n, n / 2),
                    model.copy(sheet, i, other, n, n / 2));
                break;
            case 2:
                due(at + "strips " + sheet + " " + sort + " " + i + " " + n, nests.strips(sheet, sort, i, n),
                    model.strips(sheet, sort, i, n));
                break;
            default:
                cells(at, sheet, i);
                break;
        }
    }

    private void cells(String at, int sheet, int i) {
        int[] three = {number(0, 5), place(), number(0, 9)};
        for (int k = 0; k < 3; k++) {
            int item = i + k;
            int v = random.nextInt(8) == 0 ? three[k] + (1 << 16) : three[k];
            due(at + "cell " + sheet + " " + item + " " + v, nests.cell(sheet, item, v), model.cell(sheet, item, v));
        }
    }
}
