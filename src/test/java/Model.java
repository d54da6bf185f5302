import java.util.ArrayDeque;
import java.util.ArrayList;
import java.util.Deque;
import java.util.HashSet;
import java.util.List;
import java.util.NoSuchElementException;
import java.util.Set;

/** The document read as plainly as can be, slowly, with nothing kept: what the program's answers are held against. */
final class Model {
    private static final int FOREVER = 1_000_000;

    private record Atom(int relation, int one, int other, boolean contrary) {
        int fact(int[] way) {
            return 64 * relation + 8 * way[one] + way[other];
        }
    }

    private static final class Rule {
        Atom head;
        final List<Atom> conditions = new ArrayList<>();
        boolean everOn;
    }

    private static final class Telling {
        boolean ofRule;
        boolean yes;
        int about;
        int from;
        int to;
        boolean forgotten;
        int takenFrom = -1;

        boolean in(int fact, int hour) {
            return !ofRule && !forgotten && about == fact && from <= hour && hour <= to;
        }

        Telling copy() {
            Telling copy = new Telling();
            copy.ofRule = ofRule;
            copy.yes = yes;
            copy.about = about;
            copy.from = from;
            copy.to = to;
            copy.forgotten = forgotten;
            return copy;
        }
    }

    private static final class Branch {
        final List<Telling> tellings = new ArrayList<>();
        int parent;
        int forkedAt;
        int taken;
    }

    private static final class Listener {
        int branch;
        int relation;
        int first;
        int second;
        int hour;
        final Deque<Integer> changes = new ArrayDeque<>();
    }

    private final List<Branch> branches = new ArrayList<>(List.of(new Branch()));
    private final List<Rule> rules = new ArrayList<>();
    private final List<Listener> listeners = new ArrayList<>();
    private final boolean[] unique = new boolean[6];
    private int conflicts = 0;

    private static void bound(boolean there) {
        if (!there) {
            throw new IndexOutOfBoundsException();
        }
    }

    private static void argument(boolean fine) {
        if (!fine) {
            throw new IllegalArgumentException();
        }
    }

    private static void state(boolean fine) {
        if (!fine) {
            throw new IllegalStateException();
        }
    }

    private static void supported(boolean fine) {
        if (!fine) {
            throw new UnsupportedOperationException();
        }
    }

    private static void element(boolean there) {
        if (!there) {
            throw new NoSuchElementException();
        }
    }

    private static boolean in(int number, int from, int to) {
        return from <= number && number <= to;
    }

    private void checkBranch(int branch) {
        bound(in(branch, 0, branches.size() - 1));
    }

    private void checkKnowing(int branch, int knowing) {
        checkBranch(branch);
        bound(in(knowing, 0, knowing(branch)));
    }

    private void checkAsked(int branch, int knowing, int hour, int fact) {
        checkKnowing(branch, knowing);
        argument(in(hour, 0, 23) && in(fact, 0, 383));
    }

    int tell(int branch, int fact, int from, int to) {
        return tellOrUntell(branch, fact, from, to, true);
    }

    int untell(int branch, int fact, int from, int to) {
        return tellOrUntell(branch, fact, from, to, false);
    }

    private int tellOrUntell(int branch, int fact, int from, int to, boolean yes) {
        checkBranch(branch);
        argument(in(fact, 0, 383) && in(from, 0, 23) && in(to, from, 23));
        Telling telling = new Telling();
        telling.yes = yes;
        telling.about = fact;
        telling.from = from;
        telling.to = to;
        return add(branch, telling);
    }

    private int add(int branch, Telling telling) {
        checkAdd(branch, telling);
        List<Set<Integer>> before = listened();
        branches.get(branch).tellings.add(telling);
        informFrom(before);
        return knowing(branch);
    }

    private void checkAdd(int branch, Telling telling) {
        if (telling.yes && telling.ofRule) {
            Set<Integer> on = on(branch, knowing(branch));
            on.add(telling.about);
            supported(isBound(rules.get(telling.about)) && hasLayers(on));
        } else if (telling.yes && unique[telling.about / 64]) {
            for (int hour = telling.from; hour <= telling.to; hour++) {
                for (int fact = telling.about / 8 * 8; fact < telling.about / 8 * 8 + 8; fact++) {
                    supported(fact == telling.about || !told(branch, knowing(branch), hour, fact));
                }
            }
        }
        state(knowing(branch) < 60);
    }

    boolean setUnique(int relation, boolean isUnique) {
        argument(in(relation, 0, 5));
        boolean was = unique[relation];
        unique[relation] = isUnique;
        return was;
    }

    int addRule(int head, int first, int second, int condition, int one, int other) {
        argument(in(head, 0, 5) && in(first, 0, 2) && in(second, 0, 2));
        argument(in(condition, 0, 5) && in(one, 0, 2) && in(other, 0, 2));
        state(rules.size() < 10);
        Rule rule = new Rule();
        rule.head = new Atom(head, first, second, false);
        rule.conditions.add(new Atom(condition, one, other, false));
        rules.add(rule);
        return rules.size() - 1;
    }

    int addCondition(int rule, int condition, int one, int other, boolean isContrary) {
        bound(in(rule, 0, rules.size() - 1));
        argument(in(condition, 0, 5) && in(one, 0, 2) && in(other, 0, 2));
        state(!rules.get(rule).everOn && rules.get(rule).conditions.size() < 3);
        rules.get(rule).conditions.add(new Atom(condition, one, other, isContrary));
        return rules.get(rule).conditions.size();
    }

    int turn(int branch, int rule, boolean isOn) {
        checkBranch(branch);
        bound(in(rule, 0, rules.size() - 1));
        Telling telling = new Telling();
        telling.ofRule = true;
        telling.yes = isOn;
        telling.about = rule;
        int size = add(branch, telling);
        rules.get(rule).everOn |= isOn;
        return size;
    }

    boolean isOn(int branch, int rule, int knowing) {
        checkBranch(branch);
        bound(in(rule, 0, rules.size() - 1));
        checkKnowing(branch, knowing);
        return on(branch, knowing).contains(rule);
    }

    int layer(int branch, int relation) {
        checkBranch(branch);
        argument(in(relation, 0, 5));
        return deepest(on(branch, knowing(branch)), relation, new HashSet<>());
    }

    int knowing(int branch) {
        checkBranch(branch);
        return branches.get(branch).tellings.size();
    }

    boolean holds(int branch, int knowing, int hour, int fact) {
        checkAsked(branch, knowing, hour, fact);
        return held(branch, knowing, hour)[fact];
    }

    boolean holdsAnew(int branch, int knowing, int hour, int fact) {
        return holds(branch, knowing, hour, fact);
    }

    int count(int branch, int knowing, int hour, int relation) {
        checkKnowing(branch, knowing);
        argument(in(hour, 0, 23) && in(relation, 0, 5));
        boolean[] held = held(branch, knowing, hour);
        int count = 0;
        for (int fact = 64 * relation; fact < 64 * relation + 64; fact++) {
            count += held[fact] ? 1 : 0;
        }
        return count;
    }

    int spanFrom(int branch, int knowing, int hour, int fact) {
        element(holds(branch, knowing, hour, fact));
        int from = hour;
        while (from > 0 && holds(branch, knowing, from - 1, fact)) {
            from--;
        }
        return from;
    }

    int spanTo(int branch, int knowing, int hour, int fact) {
        element(holds(branch, knowing, hour, fact));
        int to = hour;
        while (to < 23 && holds(branch, knowing, to + 1, fact)) {
            to++;
        }
        return to;
    }

    int since(int branch, int hour, int fact) {
        checkBranch(branch);
        int knowing = knowing(branch);
        boolean now = holds(branch, knowing, hour, fact);
        while (knowing > 0 && holds(branch, knowing - 1, hour, fact) == now) {
            knowing--;
        }
        return knowing;
    }

    int rank(int branch, int knowing, int hour, int fact) {
        element(holds(branch, knowing, hour, fact));
        return ranks(branch, knowing, hour)[fact];
    }

    int reason(int branch, int knowing, int hour, int fact) {
        element(holds(branch, knowing, hour, fact));
        return reasonOf(branch, knowing, hour, fact)[0];
    }

    int reasonFact(int branch, int knowing, int hour, int fact, int index) {
        element(holds(branch, knowing, hour, fact));
        int[] reason = reasonOf(branch, knowing, hour, fact);
        element(in(index, 0, reason.length - 2));
        return reason[index + 1];
    }

    int proof(int branch, int knowing, int hour, int fact) {
        element(holds(branch, knowing, hour, fact));
        Set<Integer> proof = new HashSet<>();
        addProof(branch, knowing, hour, fact, proof);
        return proof.size();
    }

    private void addProof(int branch, int knowing, int hour, int fact, Set<Integer> proof) {
        if (proof.add(fact)) {
            int[] reason = reasonOf(branch, knowing, hour, fact);
            for (int i = 1; i < reason.length; i++) {
                addProof(branch, knowing, hour, reason[i], proof);
            }
        }
    }

    int forget(int thing) {
        argument(in(thing, 0, 7));
        List<Set<Integer>> before = listened();
        int count = 0;
        for (Branch branch : branches) {
            for (Telling t : branch.tellings) {
                if (!t.ofRule && !t.forgotten && (t.about / 8 % 8 == thing || t.about % 8 == thing)) {
                    t.forgotten = true;
                    count++;
                }
            }
        }
        informFrom(before);
        return count;
    }

    boolean isForgotten(int branch, int telling) {
        checkBranch(branch);
        bound(in(telling, 0, knowing(branch) - 1));
        return branches.get(branch).tellings.get(telling).forgotten;
    }

    int seal(int branch, int knowing) {
        checkKnowing(branch, knowing);
        long seal = 1;
        for (Telling t : branches.get(branch).tellings.subList(0, knowing)) {
            long digest = t.ofRule ? 31L * (t.yes ? 13 : 17) + t.about
                    : ((31L * (t.yes ? 7 : 11) + t.about) * 31 + t.from) * 31 + t.to;
            seal = (31 * seal + digest % 65521) % 65521;
        }
        return (int) seal;
    }

    int fork(int branch, int knowing) {
        checkKnowing(branch, knowing);
        state(branches.size() < 4);
        Branch fork = new Branch();
        for (Telling t : branches.get(branch).tellings.subList(0, knowing)) {
            fork.tellings.add(t.copy());
        }
        fork.parent = branch;
        fork.forkedAt = knowing;
        fork.taken = knowing;
        branches.add(fork);
        return branches.size() - 1;
    }

    int merge(int branch) {
        checkBranch(branch);
        argument(branch != 0);
        Branch from = branches.get(branch);
        Branch into = branches.get(from.parent);
        List<Set<Integer>> before = listened();
        int told = 0;
        conflicts = 0;
        for (Telling t : from.tellings.subList(from.taken, from.tellings.size())) {
            Telling copy = t.copy();
            copy.takenFrom = branch;
            if (isTaken(from.parent, copy, from.forkedAt)) {
                into.tellings.add(copy);
                told++;
            } else {
                conflicts++;
            }
        }
        from.taken = from.tellings.size();
        informFrom(before);
        return told;
    }

    private boolean isTaken(int into, Telling telling, int forkedAt) {
        if (telling.forgotten) {
            return false;
        }
        List<Telling> others = branches.get(into).tellings;
        for (Telling o : others.subList(forkedAt, others.size())) {
            boolean meets = telling.ofRule ? o.ofRule : !o.ofRule && o.to >= telling.from && o.from <= telling.to;
            if (meets && o.about == telling.about && o.yes != telling.yes && !o.forgotten
                    && o.takenFrom != telling.takenFrom) {
                return false;
            }
        }
        try {
            checkAdd(into, telling);
            return true;
        } catch (UnsupportedOperationException | IllegalStateException e) {
            return false;
        }
    }

    int conflicts() {
        return conflicts;
    }

    int listen(int branch, int relation, int first, int second, int hour) {
        checkBranch(branch);
        argument(in(relation, 0, 5) && in(first, -1, 7) && in(second, -1, 7) && in(hour, 0, 23));
        state(listeners.size() < 5);
        Listener listener = new Listener();
        listener.branch = branch;
        listener.relation = relation;
        listener.first = first;
        listener.second = second;
        listener.hour = hour;
        listeners.add(listener);
        return listeners.size() - 1;
    }

    int waiting(int listener) {
        bound(in(listener, 0, listeners.size() - 1));
        return listeners.get(listener).changes.size();
    }

    int next(int listener) {
        bound(in(listener, 0, listeners.size() - 1));
        element(!listeners.get(listener).changes.isEmpty());
        return listeners.get(listener).changes.remove();
    }

    private List<Set<Integer>> listened() {
        List<Set<Integer>> all = new ArrayList<>();
        for (Listener l : listeners) {
            boolean[] held = held(l.branch, knowing(l.branch), l.hour);
            Set<Integer> facts = new HashSet<>();
            for (int fact = 0; fact < 384; fact++) {
                if (held[fact] && fact / 64 == l.relation && (l.first < 0 || l.first == fact / 8 % 8)
                        && (l.second < 0 || l.second == fact % 8)) {
                    facts.add(fact);
                }
            }
            all.add(facts);
        }
        return all;
    }

    private void informFrom(List<Set<Integer>> before) {
        List<Set<Integer>> after = listened();
        for (int i = 0; i < listeners.size(); i++) {
            for (int fact = 0; fact < 384; fact++) {
                boolean was = before.get(i).contains(fact);
                boolean is = after.get(i).contains(fact);
                if (was != is) {
                    listeners.get(i).changes.add(is ? 1 + fact : -1 - fact);
                }
            }
        }
    }

    long hours() {
        long sum = 0;
        for (Branch branch : branches) {
            for (Telling t : branch.tellings) {
                sum += t.ofRule || t.forgotten ? 0 : t.to - t.from + 1;
            }
        }
        return sum;
    }

    float derivedShare(int branch, int hour) {
        checkBranch(branch);
        argument(in(hour, 0, 23));
        int[] figures = figures(branch, hour);
        return (float) figures[1] / (float) figures[0];
    }

    double meanRank(int branch, int hour) {
        checkBranch(branch);
        argument(in(hour, 0, 23));
        int[] figures = figures(branch, hour);
        return (double) figures[2] / (double) figures[0];
    }

    private int[] figures(int branch, int hour) {
        int[] ranks = ranks(branch, knowing(branch), hour);
        int[] figures = new int[3];
        for (int rank : ranks) {
            if (rank != FOREVER) {
                figures[0]++;
                figures[1] += rank > 0 ? 1 : 0;
                figures[2] += rank;
            }
        }
        if (figures[0] == 0) {
            throw new ArithmeticException();
        }
        return figures;
    }

    boolean isSound() {
        return true;
    }

    private boolean told(int branch, int knowing, int hour, int fact) {
        for (int i = knowing - 1; i >= 0; i--) {
            Telling t = branches.get(branch).tellings.get(i);
            if (t.in(fact, hour)) {
                return t.yes;
            }
        }
        return false;
    }

    private Set<Integer> on(int branch, int knowing) {
        Set<Integer> on = new HashSet<>();
        for (Telling t : branches.get(branch).tellings.subList(0, knowing)) {
            if (t.ofRule && t.yes) {
                on.add(t.about);
            } else if (t.ofRule) {
                on.remove(t.about);
            }
        }
        return on;
    }

    private static boolean isBound(Rule rule) {
        Set<Integer> bound = new HashSet<>();
        Set<Integer> needed = new HashSet<>(List.of(rule.head.one));
        needed.add(rule.head.other);
        for (Atom c : rule.conditions) {
            Set<Integer> to = c.contrary ? needed : bound;
            to.add(c.one);
            to.add(c.other);
        }
        return bound.containsAll(needed);
    }

    /** There are layers unless some relation comes back to itself by way of a contrary condition. */
    private boolean hasLayers(Set<Integer> on) {
        boolean[][] needs = new boolean[6][6];
        for (int rule : on) {
            for (Atom c : rules.get(rule).conditions) {
                needs[rules.get(rule).head.relation][c.relation] = true;
            }
        }
        for (int k = 0; k < 6; k++) {
            for (int i = 0; i < 6; i++) {
                for (int j = 0; j < 6; j++) {
                    needs[i][j] |= needs[i][k] && needs[k][j];
                }
            }
        }
        for (int rule : on) {
            int head = rules.get(rule).head.relation;
            for (Atom c : rules.get(rule).conditions) {
                if (c.contrary && (c.relation == head || needs[c.relation][head])) {
                    return false;
                }
            }
        }
        return true;
    }

    /** The most contrary conditions on a path down from a relation that comes to none twice. */
    private int deepest(Set<Integer> on, int relation, Set<Integer> above) {
        int deepest = 0;
        if (above.add(relation)) {
            for (int rule : on) {
                if (rules.get(rule).head.relation == relation) {
                    for (Atom c : rules.get(rule).conditions) {
                        if (!above.contains(c.relation)) {
                            int below = deepest(on, c.relation, above);
                            deepest = Math.max(deepest, c.contrary ? below + 1 : below);
                        }
                    }
                }
            }
            above.remove(relation);
        }
        return deepest;
    }

    private boolean[] held(int branch, int knowing, int hour) {
        boolean[] held = new boolean[384];
        for (int fact = 0; fact < 384; fact++) {
            held[fact] = told(branch, knowing, hour, fact);
        }
        Set<Integer> on = on(branch, knowing);
        int[] layers = new int[6];
        for (int relation = 0; relation < 6; relation++) {
            layers[relation] = deepest(on, relation, new HashSet<>());
        }
        for (int layer = 0; layer < 6; layer++) {
            while (deriveStep(held, on, layers, layer)) {
                continue;
            }
        }
        return held;
    }

    private boolean deriveStep(boolean[] held, Set<Integer> on, int[] layers, int layer) {
        boolean more = false;
        for (int rule : on) {
            if (layers[rules.get(rule).head.relation] == layer) {
                for (int[] way : waysOf(rules.get(rule), held)) {
                    int fact = rules.get(rule).head.fact(way);
                    more |= !held[fact];
                    held[fact] = true;
                }
            }
        }
        return more;
    }

    private static List<int[]> waysOf(Rule rule, boolean[] held) {
        List<int[]> ways = new ArrayList<>();
        for (int a = 0; a < 8; a++) {
            for (int b = 0; b < 8; b++) {
                for (int c = 0; c < 8; c++) {
                    int[] way = {a, b, c};
                    boolean fits = true;
                    for (Atom condition : rule.conditions) {
                        fits &= held[condition.fact(way)] != condition.contrary;
                    }
                    if (fits) {
                        ways.add(way);
                    }
                }
            }
        }
        return ways;
    }

    private static int rankBy(Rule rule, int[] way, int[] ranks) {
        int greatest = 0;
        for (Atom c : rule.conditions) {
            greatest = c.contrary ? greatest : Math.max(greatest, ranks[c.fact(way)]);
        }
        return greatest + 1;
    }

    /** A rank for each fact, above 384 for one that does not hold. */
    int[] ranks(int branch, int knowing, int hour) {
        boolean[] held = held(branch, knowing, hour);
        int[] ranks = new int[384];
        for (int fact = 0; fact < 384; fact++) {
            ranks[fact] = told(branch, knowing, hour, fact) ? 0 : FOREVER;
        }
        boolean more = true;
        while (more) {
            more = false;
            for (int rule : on(branch, knowing)) {
                for (int[] way : waysOf(rules.get(rule), held)) {
                    int fact = rules.get(rule).head.fact(way);
                    int rank = rankBy(rules.get(rule), way, ranks);
                    if (rank < ranks[fact]) {
                        ranks[fact] = rank;
                        more = true;
                    }
                }
            }
        }
        return ranks;
    }

    /** The rule of the reason, or -1, and the facts of its straight conditions. */
    private int[] reasonOf(int branch, int knowing, int hour, int fact) {
        int[] ranks = ranks(branch, knowing, hour);
        boolean[] held = held(branch, knowing, hour);
        Set<Integer> on = on(branch, knowing);
        for (int number = 0; number < rules.size() && ranks[fact] > 0; number++) {
            Rule rule = rules.get(number);
            for (int[] way : on.contains(number) ? waysOf(rule, held) : new ArrayList<int[]>()) {
                if (rule.head.fact(way) == fact && rankBy(rule, way, ranks) == ranks[fact]) {
                    List<Integer> reason = new ArrayList<>(List.of(number));
                    for (Atom c : rule.conditions) {
                        if (!c.contrary) {
                            reason.add(c.fact(way));
                        }
                    }
                    return reason.stream().mapToInt(i -> i).toArray();
                }
            }
        }
        return new int[] {-1};
    }
}
