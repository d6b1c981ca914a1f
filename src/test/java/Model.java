import java.util.ArrayList;
import java.util.Arrays;
import java.util.List;
import java.util.Map;
import java.util.TreeMap;
import java.util.TreeSet;
import java.util.function.ToLongFunction;

/**
 * The document once more, in its plainest form and built otherwise than the program: worlds of strips
 * are copied maps, texts are kept as tokens and read anew each time they are asked.
 */
final class Model {
    static final int NONE = -1, BAD = -2, STATE = -3, FULL = -4;
    static final long NO = -4611686018427387904L;

    private record Strip(int kind, int x, int y, int way, int size, int number, int laid) {
        int where() {
            return 100 * (5 * y + x) + 10 * way + size;
        }

        TreeSet<Integer> crossings() {
            TreeSet<Integer> all = new TreeSet<>();
            for (int i = 0; i < size; i++) {
                all.add(way == 0 ? 5 * y + x + i : 5 * (y + i) + x);
            }
            return all;
        }

        int ties() {
            return new int[] {1, 2, 2, 2, 4, 1}[kind];
        }

        int knot(int age) {
            int n = number;
            return Math.max(0, new int[] {n + 1, n + 3, 2 * n + 6, n + 3 - age / 10, 3 * n + 6, (n + 1) / 2}[kind]);
        }

        boolean slips(int age) {
            return kind == 3 && age >= 100 || kind == 5 && age >= number + 10;
        }
    }

    private TreeMap<Integer, Strip> strips = new TreeMap<>();
    private int hour = 0;
    private int green = 48;
    private int rule = 0;
    private TreeMap<Integer, Strip> keptStrips = null;
    private int[] kept = null;
    private final List<List<String>> texts = new ArrayList<>();
    private final StringBuilder tape = new StringBuilder();
    private final int[][] sheets = new int[4][];
    private final int[] sorts = {-1, -1, -1, -1};

    Model() {
        texts.add(new ModelText("rub 3 ; next cross * 2 - y ; take 3 < y and 4 < x ;").words());
    }

    // ---- places

    private static Strip strip(int kind, int where, int number, int laid) {
        int crossing = where / 100;
        return new Strip(kind, crossing % 5, crossing / 5, where / 10 % 10, where % 10, number, laid);
    }

    private static List<Integer> places(int many) {
        List<Integer> all = new ArrayList<>();
        for (int y = 0; y < 5; y++) {
            for (int x = 0; x < 5; x++) {
                if (x + many - 1 <= 4) {
                    all.add(100 * (5 * y + x) + many);
                }
                if (y + many - 1 <= 4) {
                    all.add(100 * (5 * y + x) + 10 + many);
                }
            }
        }
        return all;
    }

    private static boolean fits(int where) {
        for (int many = 1; many <= 5; many++) {
            if (places(many).contains(where)) {
                return true;
            }
        }
        return false;
    }

    private static int first(int many, ToLongFunction<Integer> worth) {
        int best = -1;
        for (int where : places(many)) {
            if (best < 0 || worth.applyAsLong(where) > worth.applyAsLong(best)) {
                best = where;
            }
        }
        return best;
    }

    // ---- worlds

    private static int bits(Iterable<Integer> numbers) {
        int bits = 0;
        for (int number : numbers) {
            bits |= 1 << number;
        }
        return bits;
    }

    private static TreeMap<Integer, Strip> without(Map<Integer, Strip> world, Iterable<Integer> gone) {
        TreeMap<Integer, Strip> left = new TreeMap<>(world);
        for (int number : gone) {
            left.remove(number);
        }
        return left;
    }

    private static TreeSet<Integer> at(Map<Integer, Strip> world, int crossing) {
        TreeSet<Integer> there = new TreeSet<>();
        for (int number : world.keySet()) {
            if (world.get(number).crossings().contains(crossing)) {
                there.add(number);
            }
        }
        return there;
    }

    private static int met(Map<Integer, Strip> world, Strip strip, int own, int most) {
        int together = 0;
        for (int crossing : strip.crossings()) {
            TreeSet<Integer> others = at(world, crossing);
            others.remove(own);
            together += Math.min(most, others.size());
        }
        return together;
    }

    private int hold(Map<Integer, Strip> world, int number, int then) {
        Strip s = world.get(number);
        int age = then - s.laid;
        int cross = met(world, s, number, 99);
        int rub = ask(0, s.x, s.y, cross, s.size, age, world.size());
        rub = rub < 0 ? 0 : rub > 99 ? 99 : rub;
        return s.knot(age) + rub * met(world, s, number, s.ties());
    }

    private int ask(int part, int... names) {
        return ModelText.worth(texts.get(rule), part, names);
    }

    private int leastHold(Map<Integer, Strip> world, int then) {
        return world.keySet().stream().mapToInt(number -> hold(world, number, then)).min().orElse(0);
    }

    private static TreeSet<Integer> falling(Map<Integer, Strip> world) {
        TreeSet<Integer> fall = new TreeSet<>(world.keySet());
        TreeSet<Integer> wet = new TreeSet<>(List.of(0, 1, 2, 3, 4));
        boolean more = true;
        while (more) {
            more = false;
            for (int number : new ArrayList<>(fall)) {
                TreeSet<Integer> meets = world.get(number).crossings();
                meets.retainAll(wet);
                if (!meets.isEmpty()) {
                    wet.addAll(world.get(number).crossings());
                    fall.remove(number);
                    more = true;
                }
            }
        }
        return fall;
    }

    private TreeSet<Integer> pulledOut(int crossing, int strong) {
        TreeMap<Integer, Strip> world = new TreeMap<>(strips);
        TreeSet<Integer> taken = new TreeSet<>();
        while (true) {
            TreeSet<Integer> loose = new TreeSet<>();
            for (int number : at(world, crossing)) {
                if (hold(world, number, hour) < strong) {
                    loose.add(number);
                }
            }
            if (loose.isEmpty()) {
                return taken;
            }
            taken.addAll(loose);
            world.keySet().removeAll(loose);
        }
    }

    private TreeSet<Integer> comingOut(TreeSet<Integer> taken) {
        TreeSet<Integer> all = new TreeSet<>(taken);
        all.addAll(falling(without(strips, taken)));
        return all;
    }

    private int gone(TreeSet<Integer> out) {
        strips = without(strips, out);
        return out.size();
    }

    private TreeSet<Integer> covered() {
        TreeSet<Integer> all = new TreeSet<>();
        for (Strip s : strips.values()) {
            all.addAll(s.crossings());
        }
        return all;
    }

    private int greens(int then) {
        return (int) strips.values().stream().filter(s -> then - s.laid < green).count();
    }

    private boolean takesAt(int then) {
        return ask(2, covered().size(), greens(then), leastHold(strips, then), 0, then, strips.size()) != 0;
    }

    private TreeSet<Integer> holeSet() {
        TreeSet<Integer> covered = covered();
        TreeSet<Integer> holes = new TreeSet<>();
        for (int c = 0; c < 25; c++) {
            final int at = c;
            boolean left = covered.stream().anyMatch(d -> d / 5 == at / 5 && d < at);
            boolean right = covered.stream().anyMatch(d -> d / 5 == at / 5 && d > at);
            boolean above = covered.stream().anyMatch(d -> d % 5 == at % 5 && d < at);
            boolean below = covered.stream().anyMatch(d -> d % 5 == at % 5 && d > at);
            if (!covered.contains(c) && left && right && above && below) {
                holes.add(c);
            }
        }
        return holes;
    }

    private int free() {
        int number = 0;
        while (strips.containsKey(number)) {
            number++;
        }
        return number;
    }

    private static boolean in(int number, int from, int to) {
        return from <= number && number <= to;
    }

    // ---- the calls, as p tells their numbers

    int lay(int kind, int where, int number) {
        if (!in(kind, 0, 5) || !fits(where) || !in(number, 0, 9)) {
            return BAD;
        }
        if (strips.size() == 16) {
            return FULL;
        }
        int free = free();
        strips.put(free, strip(kind, where, number, hour));
        return free;
    }

    int out(int strip) {
        return strips.remove(strip) == null ? BAD : strips.size();
    }

    int hours(int n) {
        if (!in(n, 1, 99)) {
            return BAD;
        }
        if (hour > 9999 - n) {
            return FULL;
        }
        return hour += n;
    }

    int green(int v) {
        if (!in(v, 1, 99)) {
            return BAD;
        }
        int was = green;
        green = v;
        return was;
    }

    int told(int strip, int what) {
        Strip s = strips.get(strip);
        if (s == null || !in(what, 0, 9)) {
            return -5;
        }
        int age = hour - s.laid;
        return new int[] {s.kind, s.where(), age, s.knot(age), s.slips(age) ? 1 : 0, s.ties(), met(strips, s, strip, 99),
            met(strips, s, strip, s.ties()), hold(strips, strip, hour), age < green ? 1 : 0}[what];
    }

    int at(int crossing) {
        return in(crossing, 0, 24) ? bits(at(strips, crossing)) : BAD;
    }

    int feed(int n, long bytes) {
        if (!in(n, 1, 8)) {
            return BAD;
        }
        if (tape.length() + n > 160) {
            return FULL;
        }
        for (int i = 0; i < n; i++) {
            tape.append((char) (bytes >>> 8 * i & 255));
        }
        return tape.length();
    }

    int text() {
        if (texts.size() == 6) {
            return FULL;
        }
        ModelText text = new ModelText(tape.toString());
        tape.setLength(0);
        if (text.fault() >= 0) {
            return -100 - text.fault();
        }
        texts.add(text.words());
        return texts.size() - 1;
    }

    int force(int text) {
        if (!in(text, 0, texts.size() - 1)) {
            return BAD;
        }
        int was = rule;
        rule = text;
        return was;
    }

    int pull(int crossing, int strong, int what) {
        if (!in(crossing, 0, 24) || !in(strong, 1, 999) || !in(what, 0, 1)) {
            return BAD;
        }
        TreeSet<Integer> taken = pulledOut(crossing, strong);
        return bits(what == 0 ? taken : comingOut(taken));
    }

    int pulled(int crossing, int strong) {
        if (!in(crossing, 0, 24) || !in(strong, 1, 999)) {
            return BAD;
        }
        return gone(comingOut(pulledOut(crossing, strong)));
    }

    int falls() {
        return bits(falling(strips));
    }

    int least(int crossing, int what) {
        if (!in(crossing, 0, 24) || !in(what, 0, 1)) {
            return BAD;
        }
        if (at(strips, crossing).isEmpty()) {
            return NONE;
        }
        TreeMap<Integer, Strip> world = new TreeMap<>(strips);
        int greatest = 0;
        while (!at(world, crossing).isEmpty()) {
            int least = at(world, crossing).first();
            for (int number : at(world, crossing)) {
                if (hold(world, number, hour) < hold(world, least, hour)) {
                    least = number;
                }
            }
            greatest = Math.max(greatest, hold(world, least, hour));
            world.remove(least);
        }
        return what == 0 ? greatest + 1 : world.size() - falling(world).size();
    }

    long good(int where) {
        if (!fits(where)) {
            return NO;
        }
        Strip s = strip(0, where, 0, hour);
        return ask(1, s.x, s.y, met(strips, s, -1, 99), s.size, 0, strips.size());
    }

    int next(int many) {
        return in(many, 1, 5) ? first(many, this::good) : BAD;
    }

    int build(int many, int n) {
        if (!in(many, 1, 5) || !in(n, 0, 8)) {
            return BAD;
        }
        int laid = 0;
        for (int i = 0; i < n; i++) {
            laid += lay(0, next(many), 0) >= 0 ? 1 : 0;
        }
        return laid;
    }

    int best(int kind, int number, int many, int what) {
        if (!in(kind, 0, 5) || !in(number, 0, 9) || !in(many, 1, 5) || !in(what, 0, 1)) {
            return BAD;
        }
        if (strips.size() == 16) {
            return FULL;
        }
        ToLongFunction<Integer> worth = where -> {
            TreeMap<Integer, Strip> world = new TreeMap<>(strips);
            world.put(free(), strip(kind, where, number, hour));
            return leastHold(world, hour);
        };
        int best = first(many, worth);
        return what == 0 ? best : (int) worth.applyAsLong(best);
    }

    int takes() {
        return takesAt(hour) ? 1 : 0;
    }

    int when() {
        if (!takesAt(hour)) {
            return STATE;
        }
        int later = 1;
        while (later <= 200 && takesAt(hour + later)) {
            later++;
        }
        return later <= 200 ? later : NONE;
    }

    int spare() {
        TreeSet<Integer> spare = new TreeSet<>();
        for (int number : strips.keySet()) {
            if (falling(strips).containsAll(falling(without(strips, List.of(number))))) {
                spare.add(number);
            }
        }
        return bits(spare);
    }

    int brown(int later) {
        if (!in(later, 0, 999)) {
            return BAD;
        }
        return bits(strips.keySet().stream().filter(i -> hour + later - strips.get(i).laid >= green).toList());
    }

    int holes() {
        return bits(holeSet());
    }

    int closes(int many, int what) {
        if (!in(many, 1, 5) || !in(what, 0, 1)) {
            return BAD;
        }
        if (holeSet().isEmpty()) {
            return NONE;
        }
        ToLongFunction<Integer> worth = where -> {
            TreeSet<Integer> closed = strip(0, where, 0, 0).crossings();
            closed.retainAll(holeSet());
            return closed.size();
        };
        int best = first(many, worth);
        return what == 0 ? best : (int) worth.applyAsLong(best);
    }

    int slipped() {
        TreeSet<Integer> out = new TreeSet<>();
        strips.forEach((number, s) -> {
            if (s.slips(hour - s.laid)) {
                out.add(number);
            }
        });
        return gone(comingOut(out));
    }

    int image() {
        keptStrips = new TreeMap<>(strips);
        kept = new int[] {hour, green, rule};
        return strips.size();
    }

    int back() {
        if (kept == null) {
            return STATE;
        }
        strips = new TreeMap<>(keptStrips);
        hour = kept[0];
        green = kept[1];
        rule = kept[2];
        return strips.size();
    }

    int count(int what) {
        if (!in(what, 0, 7)) {
            return BAD;
        }
        return new int[] {strips.size(), hour, green, texts.size(), tape.length(), rule, greens(hour),
            covered().size()}[what];
    }

    // ---- the host

    int sheet(int sheet, int sort, int n) {
        if (!in(sheet, 0, 3) || !in(sort, -1, 2) || sort >= 0 && n > 40) {
            return BAD;
        }
        if (sort >= 0 && n < 0) {
            return -14;
        }
        sorts[sheet] = sort;
        sheets[sheet] = sort < 0 ? null : new int[n];
        return 1;
    }

    int cell(int sheet, int i, int v) {
        if (!in(sheet, 0, 3)) {
            return BAD;
        }
        if (sheets[sheet] == null) {
            return -11;
        }
        if (!in(i, 0, sheets[sheet].length - 1)) {
            return -12;
        }
        int shift = new int[] {24, 16, 0}[sorts[sheet]];
        sheets[sheet][i] = v << shift >> shift;
        return 1;
    }

    int copy(int sheet, int i, int other, int j, int n) {
        if (!in(sheet, 0, 3) || !in(other, 0, 3)) {
            return BAD;
        }
        if (sheets[sheet] == null || sheets[other] == null) {
            return -11;
        }
        if (sorts[sheet] != sorts[other]) {
            return -13;
        }
        if (i < 0 || j < 0 || n < 0 || (long) i + n > sheets[sheet].length || (long) j + n > sheets[other].length) {
            return -12;
        }
        int[] numbers = Arrays.copyOfRange(sheets[sheet], i, i + n);
        for (int k = 0; k < n; k++) {
            sheets[other][j + k] = numbers[k];
        }
        return n;
    }

    int strips(int sheet, int sort, int from, int n) {
        if (!in(sheet, 0, 3) || !in(sort, 0, 2) || !in(n, 0, 12)) {
            return BAD;
        }
        if (sheets[sheet] == null) {
            return -11;
        }
        if (sorts[sheet] != sort) {
            return -13;
        }
        int came = 0;
        for (long i = 0; i < n; i++) {
            long item = from + 3 * i;
            if (item < 0 || item + 2 >= sheets[sheet].length) {
                return -12;
            }
            int[] three = Arrays.copyOfRange(sheets[sheet], (int) item, (int) item + 3);
            came += lay(three[0], three[1], three[2]) >= 0 ? 1 : 0;
        }
        return came;
    }

    int taken(int strip, int k) {
        if (!in(k, 0, 5)) {
            return BAD;
        }
        Strip s = strips.get(strip);
        if (s == null) {
            return -11;
        }
        int[] above = {-1, 0, 1, 1, 2, 0};
        for (int kind = s.kind; kind >= 0; kind = above[kind]) {
            if (kind == k) {
                return s.number;
            }
        }
        return -13;
    }
}
