import java.util.ArrayList;
import java.util.List;
import java.util.Random;
import java.util.function.Supplier;
import java.util.stream.IntStream;

/** Runs of 512 calls, made by seeds, on the program and on the model: each answer and exception must be the same. */
final class RandomRunsTest {
    private static final int CALLS = 512;

    private final Random random;
    private final Versefold x = new Versefold();
    private final Model m = new Model();
    private final List<String> told = new ArrayList<>();
    // What a run draws from: few things and hours make facts meet, many make long chains and wide spans.
    private final int things;
    private final int hours;
    private final int relations;
    private final boolean isTame;
    private final int[] weights;
    private int rules = 0;
    private String wrong = "";

    private RandomRunsTest(long seed) {
        random = new Random(seed);
        things = 2 + random.nextInt(7);
        hours = random.nextBoolean() ? 24 : 1 + random.nextInt(4);
        relations = 3 + random.nextInt(4);
        isTame = random.nextInt(4) > 0;
        weights = new int[] {4 + random.nextInt(20), 1 + random.nextInt(8), random.nextInt(3), 1, 1,
            1 + random.nextInt(6), 2, 3, 1, 6, 5, 3, 3, 3, 4, 6, 6, 8, 6,
            random.nextInt(4) / 3, 1, 2, 1, 1 + random.nextInt(3), 2, 1, 2, 8, 2, 3, 3, 1};
    }

    static void run(int first, int runs) {
        List<String> results = IntStream.range(first, first + runs).parallel()
                .mapToObj(seed -> new RandomRunsTest(seed).compare()).toList();
        for (int i = 0; i < runs; i++) {
            Check.due("random run " + (first + i), "", results.get(i));
        }
    }

    private String compare() {
        for (int i = random.nextInt(8); i > 0; i--) {
            addUsableRule();
            if (random.nextInt(4) > 0) {
                turn(0, rules - 1, true);
            }
        }
        while (told.size() < CALLS && wrong.isEmpty()) {
            call(kind());
        }
        return wrong;
    }

    /** A rule with bound variables, contrary at most to lower relations: most of these can be on together. */
    private void addUsableRule() {
        int head = 1 + random.nextInt(relations - 1);
        int first = random.nextInt(head + 1);
        int second = random.nextInt(head + 1);
        int rule = rules;
        switch (random.nextInt(5)) {
            case 0 -> addRule(head, 0, 1, first, 0, 1);
            case 1 -> addRule(head, 0, 1, first, 1, 0);
            case 2 -> {
                addRule(head, 0, 2, first, 0, 1);
                addCondition(rule, second, 1, 2, false);
            }
            case 3 -> {
                addRule(head, 2, 0, first, 0, 1);
                addCondition(rule, second, 2, 1, false);
            }
            default -> {
                addRule(head, random.nextInt(3), random.nextInt(3), first, 1, 2);
                addCondition(rule, second, random.nextInt(3), 0, false);
            }
        }
        if (random.nextInt(3) > 0) {
            boolean isContrary = random.nextInt(3) > 0;
            int relation = random.nextInt(isContrary ? head : head + 1);
            addCondition(rule, relation, random.nextInt(2), random.nextInt(2), isContrary);
        }
    }

    private void addRule(int p, int u, int v, int q, int w, int y) {
        rules++;
        same("addRule " + p + " " + u + " " + v + " " + q + " " + w + " " + y,
                () -> x.addRule(p, u, v, q, w, y), () -> m.addRule(p, u, v, q, w, y));
    }

    private void turn(int b, int r, boolean is) {
        same("turn " + b + " " + r + " " + is, () -> x.turn(b, r, is), () -> m.turn(b, r, is));
    }

    private void addCondition(int r, int p, int u, int v, boolean isContrary) {
        same("addCondition " + r + " " + p + " " + u + " " + v + " " + isContrary,
                () -> x.addCondition(r, p, u, v, isContrary), () -> m.addCondition(r, p, u, v, isContrary));
    }

    private int kind() {
        int sum = IntStream.of(weights).sum();
        int drawn = random.nextInt(sum);
        int kind = 0;
        while (drawn >= weights[kind]) {
            drawn -= weights[kind];
            kind++;
        }
        return kind;
    }

    private void same(String call, Supplier<?> program, Supplier<?> model) {
        Object got = Check.answer(program);
        Object want = Check.answer(model);
        told.add(call + " -> " + want);
        if (!want.equals(got)) {
            wrong = told.size() + " calls, got " + got + ":\n  " + String.join("\n  ", told);
        }
    }

    /** Mostly from 0 to end - 1, now and then outside. */
    private int pick(int end) {
        int odd = random.nextInt(isTame ? 400 : 40);
        if (odd == 0) {
            return new int[] {-1, -2, end, 64, 384, Integer.MIN_VALUE, Integer.MAX_VALUE}[random.nextInt(7)];
        }
        return random.nextInt(Math.max(1, end));
    }

    private int fact() {
        return random.nextInt(100) == 0 ? pick(384)
                : 64 * random.nextInt(relations) + 8 * random.nextInt(things) + random.nextInt(things);
    }

    /** Facts of low relations are told, so that others are left to rules. */
    private int factToTell() {
        return random.nextInt(3) == 0 ? fact() : fact() % 128;
    }

    /** Mostly one that is there. */
    private int branch() {
        int there = 1;
        while (there < 4 && isBranch(there)) {
            there++;
        }
        return random.nextInt(40) == 0 ? pick(4) : random.nextInt(there);
    }

    private boolean isBranch(int branch) {
        return Check.answer(() -> m.knowing(branch)) instanceof Integer;
    }

    private int knowing(int branch) {
        Object size = Check.answer(() -> m.knowing(branch));
        int end = size instanceof Integer ? (Integer) size : 0;
        return random.nextInt(3) > 0 ? end : pick(end + 1);
    }

    private int variable() {
        return pick(3);
    }

    private int from() {
        return hours < 24 ? 0 : pick(24);
    }

    private int to(int from) {
        return hours < 24 ? pick(hours)
                : random.nextInt(12) == 0 ? pick(24) : from + random.nextInt(Math.max(1, 24 - from));
    }

    private void call(int kind) {
        if (kind < 9) {
            callOfFactsAndRules(kind);
        } else if (kind < 19) {
            callOfAnswers(kind);
        } else {
            callOfOthers(kind);
        }
    }

    private void callOfFactsAndRules(int kind) {
        int b = branch();
        int f = factToTell();
        int s = Math.min(Math.max(-9, from()), 99);
        int t = to(s);
        int r = random.nextInt(8) == 0 ? pick(10) : pick(rules);
        int p = pick(relations);
        int q = pick(relations);
        int u = variable();
        int v = variable();
        int w = variable();
        int y = variable();
        boolean is = random.nextInt(3) > 0;
        switch (kind) {
            case 0 -> same("tell " + b + " " + f + " " + s + " " + t,
                    () -> x.tell(b, f, s, t), () -> m.tell(b, f, s, t));
            case 1 -> same("untell " + b + " " + f + " " + s + " " + t,
                    () -> x.untell(b, f, s, t), () -> m.untell(b, f, s, t));
            case 2 -> same("setUnique " + p + " " + is, () -> x.setUnique(p, is), () -> m.setUnique(p, is));
            case 3 -> addRule(p, u, v, q, w, y);
            case 4 -> addCondition(r, p, u, v, !is);
            case 5 -> turn(b, r, is);
            case 6 -> {
                int k = knowing(b);
                same("isOn " + b + " " + r + " " + k, () -> x.isOn(b, r, k), () -> m.isOn(b, r, k));
            }
            case 7 -> same("layer " + b + " " + p, () -> x.layer(b, p), () -> m.layer(b, p));
            default -> same("knowing " + b, () -> x.knowing(b), () -> m.knowing(b));
        }
    }

    private void callOfAnswers(int kind) {
        int b = branch();
        int k = knowing(b);
        int h = pick(hours);
        int f = random.nextBoolean() ? fact() : heldFact(b, k, h);
        int p = pick(relations);
        int i = random.nextInt(4) - random.nextInt(8) / 7;
        String of = b + " " + k + " " + h + " " + f;
        switch (kind) {
            case 9 -> same("holds " + of, () -> x.holds(b, k, h, f), () -> m.holds(b, k, h, f));
            case 10 -> same("holdsAnew " + of, () -> x.holdsAnew(b, k, h, f), () -> m.holdsAnew(b, k, h, f));
            case 11 -> same("count " + b + " " + k + " " + h + " " + p,
                    () -> x.count(b, k, h, p), () -> m.count(b, k, h, p));
            case 12 -> same("spanFrom " + of, () -> x.spanFrom(b, k, h, f), () -> m.spanFrom(b, k, h, f));
            case 13 -> same("spanTo " + of, () -> x.spanTo(b, k, h, f), () -> m.spanTo(b, k, h, f));
            case 14 -> same("since " + b + " " + h + " " + f, () -> x.since(b, h, f), () -> m.since(b, h, f));
            case 15 -> same("rank " + of, () -> x.rank(b, k, h, f), () -> m.rank(b, k, h, f));
            case 16 -> same("reason " + of, () -> x.reason(b, k, h, f), () -> m.reason(b, k, h, f));
            case 17 -> same("reasonFact " + of + " " + i, () -> x.reasonFact(b, k, h, f, i),
                    () -> m.reasonFact(b, k, h, f, i));
            default -> same("proof " + of, () -> x.proof(b, k, h, f), () -> m.proof(b, k, h, f));
        }
    }

    /** A fact that holds, mostly one that is derived, so that spans and reasons are often there. */
    private int heldFact(int b, int k, int h) {
        int from = fact();
        int least = random.nextInt(5) > 0 ? 1 + random.nextInt(4) : 0;
        int found = from;
        if (Check.answer(() -> m.count(b, k, h, 0)) instanceof Integer) {
            int[] ranks = m.ranks(b, k, h);
            int best = -1;
            for (int i = 0; i < 384; i++) {
                int fact = Math.floorMod(from + i, 384);
                if (ranks[fact] <= 384 && ranks[fact] > best && best < least) {
                    best = ranks[fact];
                    found = fact;
                }
            }
        }
        return found;
    }

    private void callOfOthers(int kind) {
        int b = branch();
        int k = knowing(b);
        int l = pick(5);
        int h = pick(hours);
        int thing = pick(things);
        int p = pick(relations);
        int one = random.nextInt(3) > 0 ? -1 : pick(things);
        int other = random.nextInt(3) > 0 ? -1 : pick(things);
        int t = pick(Math.max(1, k));
        int from = random.nextInt(20) == 0 ? pick(4) : Math.max(1, branch());
        switch (kind) {
            case 19 -> same("forget " + thing, () -> x.forget(thing), () -> m.forget(thing));
            case 20 -> same("isForgotten " + b + " " + t, () -> x.isForgotten(b, t), () -> m.isForgotten(b, t));
            case 21 -> same("seal " + b + " " + k, () -> x.seal(b, k), () -> m.seal(b, k));
            case 22 -> same("fork " + b + " " + k, () -> x.fork(b, k), () -> m.fork(b, k));
            case 23 -> same("merge " + from, () -> x.merge(from), () -> m.merge(from));
            case 24 -> same("conflicts", x::conflicts, m::conflicts);
            case 25 -> same("listen " + b + " " + p + " " + one + " " + other + " " + h,
                    () -> x.listen(b, p, one, other, h), () -> m.listen(b, p, one, other, h));
            case 26 -> same("waiting " + l, () -> x.waiting(l), () -> m.waiting(l));
            case 27 -> same("next " + l, () -> x.next(l), () -> m.next(l));
            case 28 -> same("hours", x::hours, m::hours);
            case 29 -> same("derivedShare " + b + " " + h, () -> x.derivedShare(b, h), () -> m.derivedShare(b, h));
            case 30 -> same("meanRank " + b + " " + h, () -> x.meanRank(b, h), () -> m.meanRank(b, h));
            default -> same("isSound", x::isSound, m::isSound);
        }
    }
}
