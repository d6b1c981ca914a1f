import java.util.ArrayDeque;
import java.util.ArrayList;
import java.util.Deque;
import java.util.List;
import java.util.regex.Matcher;
import java.util.regex.Pattern;

/**
 * A text for the model: its FAULT is found by a walk over the tokens with a pile of what is open,
 * its worth by splitting the tokens at the loosest sign that stands in no bracket.
 */
final class ModelText {
    private static final Pattern TOKEN = Pattern.compile("[a-z]+|[0-9]+|[();+*<=-]");
    private static final List<String> NAMES = List.of("x", "y", "cross", "long", "age", "strips");
    private static final List<String> PARTS = List.of("rub", "next", "take");

    private final List<String> words = new ArrayList<>();
    private final int fault;

    ModelText(String text) {
        fault = walk(text);
    }

    int fault() {
        return fault;
    }

    List<String> words() {
        return words;
    }

    // ---- the fault

    private int walk(String text) {
        Walk walk = new Walk();
        int at = 0;
        while (true) {
            while (at < text.length() && (text.charAt(at) == ' ' || text.charAt(at) == '\n')) {
                at++;
            }
            if (at == text.length()) {
                return walk.part == 3 ? -1 : at;
            }
            Matcher token = TOKEN.matcher(text).region(at, text.length());
            if (!token.lookingAt() || !walk.accepts(token.group())) {
                return at;
            }
            words.add(token.group());
            at = token.end();
        }
    }

    private static final class Walk {
        int part = 0;
        /** 0: a part's key is due, 1: an operand, 2: what stands behind an operand. */
        private int due = 0;
        /** Whether a not may stand here, and whether a < or = may. */
        private boolean startsNot;
        private boolean mayCompare;
        private final Deque<String> open = new ArrayDeque<>();
        private final Deque<Boolean> mayCompareBehind = new ArrayDeque<>();

        boolean accepts(String token) {
            if (due == 0) {
                due = 1;
                startsNot = true;
                mayCompare = true;
                return part < 3 && token.equals(PARTS.get(part));
            }
            return due == 1 ? operand(token) : behind(token);
        }

        private boolean operand(String token) {
            boolean opens = token.equals("(") || token.equals("-") || token.equals("not") && startsNot;
            if (opens) {
                if (open.size() == 5) {
                    return false;
                }
                open.push(token);
                if (token.equals("(")) {
                    mayCompareBehind.push(mayCompare);
                    mayCompare = true;
                }
                startsNot = !token.equals("-");
                return true;
            }
            if (!NAMES.contains(token) && !token.matches("[0-9]{1,4}")) {
                return false;
            }
            ended();
            return true;
        }

        private void ended() {
            due = 2;
            while ("-".equals(open.peek())) {
                open.pop();
            }
        }

        private void endNots() {
            while ("not".equals(open.peek())) {
                open.pop();
            }
        }

        private boolean behind(String token) {
            startsNot = false;
            switch (token) {
                case "*": case "+": case "-":
                    due = 1;
                    return true;
                case "<": case "=":
                    due = 1;
                    boolean may = mayCompare;
                    mayCompare = false;
                    return may;
                case "and": case "or":
                    endNots();
                    due = 1;
                    startsNot = true;
                    mayCompare = true;
                    return true;
                case ")":
                    endNots();
                    if (!"(".equals(open.poll())) {
                        return false;
                    }
                    mayCompare = mayCompareBehind.pop();
                    ended();
                    return true;
                case ";":
                    endNots();
                    part++;
                    due = 0;
                    return open.isEmpty();
                default:
                    return false;
            }
        }
    }

    // ---- the worth

    static int worth(List<String> words, int part, int[] names) {
        int from = words.indexOf(PARTS.get(part)) + 1;
        int to = from;
        while (!words.get(to).equals(";")) {
            to++;
        }
        return worth(words.subList(from, to), names);
    }

    private static int worth(List<String> e, int[] names) {
        int at = last(e, List.of("or"));
        if (at >= 0) {
            int a = worth(e.subList(0, at), names);
            int b = worth(e.subList(at + 1, e.size()), names);
            return a != 0 || b != 0 ? 1 : 0;
        }
        at = last(e, List.of("and"));
        if (at >= 0) {
            int a = worth(e.subList(0, at), names);
            int b = worth(e.subList(at + 1, e.size()), names);
            return a != 0 && b != 0 ? 1 : 0;
        }
        if (e.get(0).equals("not")) {
            return worth(e.subList(1, e.size()), names) == 0 ? 1 : 0;
        }
        for (List<String> signs : List.of(List.of("<", "="), List.of("+", "-"), List.of("*"))) {
            at = last(e, signs);
            if (at >= 0) {
                int a = worth(e.subList(0, at), names);
                int b = worth(e.subList(at + 1, e.size()), names);
                return byName(e.get(at), a, b);
            }
        }
        if (e.get(0).equals("-")) {
            return 0 - worth(e.subList(1, e.size()), names);
        }
        if (e.get(0).equals("(")) {
            return worth(e.subList(1, e.size() - 1), names);
        }
        int name = NAMES.indexOf(e.get(0));
        return name >= 0 ? names[name] : Integer.parseInt(e.get(0));
    }

    private static int byName(String sign, int a, int b) {
        switch (sign) {
            case "<": return a < b ? 1 : 0;
            case "=": return a == b ? 1 : 0;
            case "+": return a + b;
            case "-": return a - b;
            default: return a * b;
        }
    }

    /** The place of the last of these signs that stands in no bracket and between two operands; -1. */
    private static int last(List<String> e, List<String> signs) {
        int deep = 0;
        for (int i = e.size() - 1; i > 0; i--) {
            String before = e.get(i - 1);
            boolean behindOperand = before.equals(")") || before.matches("[0-9]+") || NAMES.contains(before);
            if (e.get(i).equals(")")) {
                deep++;
            } else if (e.get(i).equals("(")) {
                deep--;
            } else if (deep == 0 && behindOperand && signs.contains(e.get(i))) {
                return i;
            }
        }
        return -1;
    }
}
