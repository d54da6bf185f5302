import java.util.ArrayList;
import java.util.LinkedHashSet;
import java.util.List;
import java.util.Set;

/**
 * Each argument of each call: the least int, the number just below its range, the first and the last one in it, the
 * number just above it and the greatest int, in all combinations. If an IndexOutOfBoundsException and an
 * IllegalArgumentException apply, the first is due; no call whose arguments are all in range throws one of these; and
 * refused calls change nothing. All this for a new object, for one with something of everything, and for a full one.
 */
final class RangesTest {
    private static final int REFUSED_AT_ONCE = 120;
    private static final String INDEX = "throws.IndexOutOfBoundsException";
    private static final String ARGUMENT = "throws.IllegalArgumentException";

    private static final List<String> CALLS = List.of(
            "tell branch fact from to", "untell branch fact from to", "setUnique relation bool",
            "addRule relation variable variable relation variable variable",
            "addCondition rule relation variable variable bool", "turn branch rule bool", "isOn branch rule knowing",
            "layer branch relation", "knowing branch", "holds branch knowing hour fact",
            "holdsAnew branch knowing hour fact", "count branch knowing hour relation",
            "spanFrom branch knowing hour fact", "spanTo branch knowing hour fact", "since branch hour fact",
            "rank branch knowing hour fact", "reason branch knowing hour fact",
            "reasonFact branch knowing hour fact any", "proof branch knowing hour fact", "forget thing",
            "isForgotten branch telling", "seal branch knowing", "fork branch knowing", "merge forked",
            "listen branch relation listened listened hour", "waiting listener", "next listener",
            "derivedShare branch hour", "meanRank branch hour");

    private static final String RICH = """
            addRule 1 0 1 0 0 1
            addRule 2 0 2 0 0 1
            addCondition 1 1 1 2 false
            addCondition 1 3 0 2 true
            addRule 4 0 0 0 0 0
            setUnique 3 true
            turn 0 0 true
            tell 0 1 0 23
            tell 0 10 0 11
            turn 0 1 true
            untell 0 1 5 5
            fork 0 3
            listen 0 1 -1 -1 5
            listen 1 0 -1 -1 23
            tell 1 7 2 23
            tell 1 383 22 23
            fork 1 4
            tell 0 0 0 0
            tell 0 383 23 23
            untell 1 0 0 23
            forget 7
            tell 2 200 0 23
            tell 0 57 5 5
            """;

    private static final String FULL = """
            listen 0 {0,1} -1 -1 0
            listen 0 5 7 7 23
            listen 0 0 0 0 0
            listen 0 0 -1 1 23
            10 * addRule 1 0 1 0 0 1
            2 * addCondition {1..9} 5 0 1 false
            turn 0 0 true
            29 * tell 0 0 0 23
            28 * tell 0 383 0 23
            turn 0 1 true
            tell 0 1 23 23
            fork 0 60
            fork 1 59
            fork 0 59
            untell 2 1 0 0
            turn 3 0 false
            """;

    private final String name;
    private final List<String> done = new ArrayList<>();
    private final int[] sizes;
    private final int rules;
    private final int listeners;
    private final List<String> refused = new ArrayList<>();
    private Versefold x;

    private RangesTest(String name, String text, int rules, int listeners, int... sizes) {
        this.name = name;
        this.sizes = sizes;
        this.rules = rules;
        this.listeners = listeners;
        for (Calls.Line line : Calls.lines(text)) {
            done.add(line.call());
        }
        x = Story.after(done);
    }

    static void run() {
        new RangesTest("a new object", "", 0, 0, 0).tryAll();
        new RangesTest("an object in use", RICH, 3, 2, 8, 6, 5).tryAll();
        new RangesTest("a full object", FULL, 10, 5, 60, 60, 60, 60).tryAll();
    }

    private void tryAll() {
        for (int branch = 0; branch < sizes.length; branch++) {
            Check.due(name + ", branch " + branch, sizes[branch], x.knowing(branch));
        }
        for (String call : CALLS) {
            String[] words = call.split(" ");
            List<Integer> changed = new ArrayList<>();
            for (int i = 1; i < words.length; i++) {
                changed.add(i);
            }
            if (words.length <= 6) {
                spread(words, words[0], "", List.of(), changed);
            } else {
                spreadPairs(words, changed);
            }
            endOfRefused();
        }
    }

    /** So many arguments are not tried in all combinations, but any two of them together, the others in range. */
    private void spreadPairs(String[] words, List<Integer> all) {
        for (int one : all) {
            for (int other : all) {
                if (one < other) {
                    spread(words, words[0], "", List.of(), List.of(one, other));
                }
            }
        }
    }

    /** Puts for the next argument each of its values if it is to be changed, otherwise its first one in range. */
    private void spread(String[] words, String call, String due, List<Long> before, List<Integer> changed) {
        int at = before.size() + 1;
        if (at == words.length) {
            tryOne(call, due);
            return;
        }
        String kind = words[at];
        if (kind.equals("bool")) {
            spread(words, call + " true", due, with(before, 1), changed);
            spread(words, call + " false", due, with(before, 0), changed);
            return;
        }
        long[] range = range(kind, before);
        String exception = isIndex(kind) ? INDEX : ARGUMENT;
        for (long value : changed.contains(at) ? values(range) : Set.of(range[0])) {
            boolean isWrong = value < range[0] || value > range[1];
            boolean isFirst = due.isEmpty() || exception.equals(INDEX);
            spread(words, call + " " + value, isWrong && isFirst ? exception : due, with(before, value), changed);
        }
    }

    private static List<Long> with(List<Long> before, long value) {
        List<Long> all = new ArrayList<>(before);
        all.add(value);
        return all;
    }

    private static boolean isIndex(String kind) {
        return List.of("branch", "knowing", "rule", "listener", "telling", "forked").contains(kind);
    }

    private static Set<Long> values(long[] range) {
        Set<Long> values = new LinkedHashSet<>(List.of((long) Integer.MIN_VALUE, (long) Integer.MAX_VALUE));
        for (long value : new long[] {range[0] - 1, range[0], range[1], range[1] + 1}) {
            if (value >= Integer.MIN_VALUE && value <= Integer.MAX_VALUE) {
                values.add(value);
            }
        }
        return values;
    }

    private long[] range(String kind, List<Long> before) {
        return switch (kind) {
            case "fact" -> new long[] {0, 383};
            case "hour", "from" -> new long[] {0, 23};
            case "to" -> new long[] {Math.max(0, Math.min(23, before.get(2))), 23};
            case "relation" -> new long[] {0, 5};
            case "thing" -> new long[] {0, 7};
            case "listened" -> new long[] {-1, 7};
            case "variable" -> new long[] {0, 2};
            case "branch" -> new long[] {0, sizes.length - 1};
            case "forked" -> new long[] {0, sizes.length - 1};
            case "rule" -> new long[] {0, rules - 1};
            case "listener" -> new long[] {0, listeners - 1};
            case "knowing" -> new long[] {0, sizeOf(before)};
            case "telling" -> new long[] {0, sizeOf(before) - 1};
            default -> new long[] {Integer.MIN_VALUE, Integer.MAX_VALUE};
        };
    }

    private int sizeOf(List<Long> before) {
        long branch = before.get(0);
        return branch >= 0 && branch < sizes.length ? sizes[(int) branch] : 0;
    }

    private void tryOne(String call, String due) {
        if (!due.isEmpty()) {
            Check.due(name + ": " + call, due, Calls.answer(x, call));
            refused.add(call);
            if (refused.size() == REFUSED_AT_ONCE) {
                endOfRefused();
            }
        } else {
            String answer = Calls.answer(Story.after(done), call);
            boolean isMergeOfFirst = call.equals("merge 0");
            Check.due(name + ": " + call + " is in range", false,
                    answer.equals(INDEX) || answer.equals(ARGUMENT) != isMergeOfFirst);
        }
    }

    private void endOfRefused() {
        Story.changeNothing(name, done, refused);
        refused.clear();
        x = Story.after(done);
    }
}
