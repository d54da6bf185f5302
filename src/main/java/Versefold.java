import java.util.Arrays;
import java.util.NoSuchElementException;

/** A database of versions in which each question names a time of the world and a time of the knowing. */
public final class Versefold {

    private static final int RELATIONS = 6;
    private static final int THINGS = 8;
    private static final int PAIRS = THINGS * THINGS;
    private static final int FACTS = RELATIONS * PAIRS;
    private static final int HOURS = 24;
    private static final int VARIABLES = 3;
    private static final int WAYS = THINGS * THINGS * THINGS;

    private static final int MOST_BRANCHES = 4;
    private static final int MOST_TELLINGS = 60;
    private static final int MOST_RULES = 10;
    private static final int MOST_CONDITIONS = 3;
    private static final int MOST_LISTENERS = 5;

    // What holds in a branch changes only by a call that adds a telling to it or forgets one of them.
    private static final int MOST_CHANGES = 2 * MOST_TELLINGS;

    // No chain of contrary conditions over six relations is longer, unless it goes round.
    private static final int TOP_LAYER = RELATIONS - 1;

    private static final int EVERY_RELATION = (1 << RELATIONS) - 1;
    private static final int MODULUS = 65521;
    private static final int SOUND_CHECK_STEP = 6;
    private static final int NONE = -1;
    private static final int FITS = -1;

    private final Branch[] branches = new Branch[MOST_BRANCHES];
    private final Listener[] listeners = new Listener[MOST_LISTENERS];
    private final boolean[] uniques = new boolean[RELATIONS];
    private final RuleBook book = new RuleBook();
    private final Reasons reasons = new Reasons();
    private final State fresh = new State();
    private int branchCount = 1;
    private int listenerCount = 0;
    private int passedOver = 0;

    public Versefold() {
        for (int i = 0; i < MOST_BRANCHES; i++) {
            branches[i] = new Branch();
        }
        for (int i = 0; i < MOST_LISTENERS; i++) {
            listeners[i] = new Listener();
        }
    }

    // ---- facts

    public int tell(int branch, int fact, int from, int to)
            throws IndexOutOfBoundsException, IllegalArgumentException, UnsupportedOperationException,
            IllegalStateException {
        Branch row = branchAt(branch);
        checkFact(fact);
        checkSpan(from, to);
        if (hasRival(row, fact, from, to)) {
            throw new UnsupportedOperationException("another fact of the unique relation stands against it");
        }
        checkRoom(row);
        row.append(false, true, fact, from, to, NONE);
        inform(branch);
        return row.size;
    }

    public int untell(int branch, int fact, int from, int to)
            throws IndexOutOfBoundsException, IllegalArgumentException, IllegalStateException {
        Branch row = branchAt(branch);
        checkFact(fact);
        checkSpan(from, to);
        checkRoom(row);
        row.append(false, false, fact, from, to, NONE);
        inform(branch);
        return row.size;
    }

    public boolean setUnique(int relation, boolean isUnique) throws IllegalArgumentException {
        checkRelation(relation);
        boolean was = uniques[relation];
        uniques[relation] = isUnique;
        return was;
    }

    // ---- rules

    public int addRule(int head, int first, int second, int condition, int one, int other)
            throws IllegalArgumentException, IllegalStateException {
        checkPattern(head, first, second);
        checkPattern(condition, one, other);
        if (book.size >= MOST_RULES) {
            throw new IllegalStateException("there are 10 rules");
        }
        Rule rule = book.rules[book.size];
        rule.setHead(head, first, second);
        rule.append(condition, one, other, false);
        book.size++;
        return book.size - 1;
    }

    public int addCondition(int rule, int condition, int one, int other, boolean isContrary)
            throws IndexOutOfBoundsException, IllegalArgumentException, IllegalStateException {
        Rule changed = ruleAt(rule);
        checkPattern(condition, one, other);
        if (changed.wasOn || changed.size >= MOST_CONDITIONS) {
            throw new IllegalStateException("the rule was on, or has 3 conditions");
        }
        changed.append(condition, one, other, isContrary);
        return changed.size;
    }

    public int turn(int branch, int rule, boolean isOn)
            throws IndexOutOfBoundsException, UnsupportedOperationException, IllegalStateException {
        Branch row = branchAt(branch);
        Rule turned = ruleAt(rule);
        if (isOn && !book.canBeOn(rule, row.rulesOn(row.size))) {
            throw new UnsupportedOperationException("the rule has an unbound variable, or there would be no layers");
        }
        checkRoom(row);
        turned.wasOn = turned.wasOn || isOn;
        row.append(true, isOn, rule, 0, 0, NONE);
        inform(branch);
        return row.size;
    }

    public boolean isOn(int branch, int rule, int knowing) throws IndexOutOfBoundsException {
        Branch row = branchAt(branch);
        ruleAt(rule);
        checkKnowing(row, knowing);
        return isAmong(rule, row.rulesOn(knowing));
    }

    public int layer(int branch, int relation) throws IndexOutOfBoundsException, IllegalArgumentException {
        Branch row = branchAt(branch);
        checkRelation(relation);
        book.findLayers(row.rulesOn(row.size));
        return book.layers[relation];
    }

    // ---- answers

    public int knowing(int branch) throws IndexOutOfBoundsException {
        return branchAt(branch).size;
    }

    public boolean holds(int branch, int knowing, int hour, int fact)
            throws IndexOutOfBoundsException, IllegalArgumentException {
        Branch row = branchAt(branch);
        checkAsked(row, knowing, hour, fact);
        return stateOf(row, knowing, hour).has(fact);
    }

    public boolean holdsAnew(int branch, int knowing, int hour, int fact)
            throws IndexOutOfBoundsException, IllegalArgumentException {
        Branch row = branchAt(branch);
        checkAsked(row, knowing, hour, fact);
        return stateAnew(row, knowing, hour).has(fact);
    }

    public int count(int branch, int knowing, int hour, int relation)
            throws IndexOutOfBoundsException, IllegalArgumentException {
        Branch row = branchAt(branch);
        checkKnowing(row, knowing);
        checkHour(hour);
        checkRelation(relation);
        return Long.bitCount(stateOf(row, knowing, hour).held[relation]);
    }

    public int spanFrom(int branch, int knowing, int hour, int fact)
            throws IndexOutOfBoundsException, IllegalArgumentException, NoSuchElementException {
        Branch row = branchAt(branch);
        checkAsked(row, knowing, hour, fact);
        checkHeld(stateOf(row, knowing, hour), fact);
        int from = hour;
        while (from > 0 && stateOf(row, knowing, from - 1).has(fact)) {
            from--;
        }
        return from;
    }

    public int spanTo(int branch, int knowing, int hour, int fact)
            throws IndexOutOfBoundsException, IllegalArgumentException, NoSuchElementException {
        Branch row = branchAt(branch);
        checkAsked(row, knowing, hour, fact);
        checkHeld(stateOf(row, knowing, hour), fact);
        int to = hour;
        while (to < HOURS - 1 && stateOf(row, knowing, to + 1).has(fact)) {
            to++;
        }
        return to;
    }

    public int since(int branch, int hour, int fact) throws IndexOutOfBoundsException, IllegalArgumentException {
        Branch row = branchAt(branch);
        checkAsked(row, row.size, hour, fact);
        boolean isHeld = stateOf(row, row.size, hour).has(fact);
        int knowing = row.size;
        while (knowing > 0 && stateOf(row, knowing - 1, hour).has(fact) == isHeld) {
            knowing--;
        }
        return knowing;
    }

    // ---- reasons

    public int rank(int branch, int knowing, int hour, int fact)
            throws IndexOutOfBoundsException, IllegalArgumentException, NoSuchElementException {
        findReason(branch, knowing, hour, fact);
        return reasons.ranks[fact];
    }

    public int reason(int branch, int knowing, int hour, int fact)
            throws IndexOutOfBoundsException, IllegalArgumentException, NoSuchElementException {
        findReason(branch, knowing, hour, fact);
        return reasons.ruleOf(fact);
    }

    public int reasonFact(int branch, int knowing, int hour, int fact, int index)
            throws IndexOutOfBoundsException, IllegalArgumentException, NoSuchElementException {
        findReason(branch, knowing, hour, fact);
        int found = reasons.premise(book, fact, index);
        if (found == NONE) {
            throw new NoSuchElementException("the fact is told, or there is no such straight condition");
        }
        return found;
    }

    public int proof(int branch, int knowing, int hour, int fact)
            throws IndexOutOfBoundsException, IllegalArgumentException, NoSuchElementException {
        findReason(branch, knowing, hour, fact);
        return reasons.proofSize(book, fact);
    }

    // ---- forgetting and seals

    public int forget(int thing) throws IllegalArgumentException {
        if (!isBelow(thing, THINGS)) {
            throw new IllegalArgumentException("no such thing");
        }
        int forgotten = 0;
        for (int i = 0; i < branchCount; i++) {
            forgotten += branches[i].forgetAbout(thing);
            inform(i);
        }
        return forgotten;
    }

    public boolean isForgotten(int branch, int telling) throws IndexOutOfBoundsException {
        Branch row = branchAt(branch);
        if (!isBelow(telling, row.size)) {
            throw new IndexOutOfBoundsException("no such telling");
        }
        return row.tellings[telling].forgotten;
    }

    public int seal(int branch, int knowing) throws IndexOutOfBoundsException {
        Branch row = branchAt(branch);
        checkKnowing(row, knowing);
        return row.seals[knowing];
    }

    // ---- branches

    public int fork(int branch, int knowing) throws IndexOutOfBoundsException, IllegalStateException {
        Branch row = branchAt(branch);
        checkKnowing(row, knowing);
        if (branchCount >= MOST_BRANCHES) {
            throw new IllegalStateException("there are 4 branches");
        }
        branches[branchCount].becomeFork(row, branch, knowing);
        branchCount++;
        return branchCount - 1;
    }

    public int merge(int branch) throws IndexOutOfBoundsException, IllegalArgumentException {
        Branch row = branchAt(branch);
        if (branch == 0) {
            throw new IllegalArgumentException("the branch 0 was not forked");
        }
        Branch origin = branches[row.origin];
        int sizeBefore = origin.size;
        passedOver = 0;
        for (int i = row.taken; i < row.size; i++) {
            Telling telling = row.tellings[i];
            if (telling.forgotten || origin.hasContrary(telling, row.forkedAt, branch) || !canBeTold(origin, telling)) {
                passedOver++;
            } else {
                origin.append(telling.isOfRule, telling.isSo, telling.about, telling.from, telling.to, branch);
            }
        }
        row.taken = row.size;
        inform(row.origin);
        return origin.size - sizeBefore;
    }

    public int conflicts() {
        return passedOver;
    }

    // ---- listeners

    public int listen(int branch, int relation, int first, int second, int hour)
            throws IndexOutOfBoundsException, IllegalArgumentException, IllegalStateException {
        Branch row = branchAt(branch);
        checkRelation(relation);
        if (first != NONE && !isBelow(first, THINGS) || second != NONE && !isBelow(second, THINGS)) {
            throw new IllegalArgumentException("no such thing");
        }
        checkHour(hour);
        if (listenerCount >= MOST_LISTENERS) {
            throw new IllegalStateException("there are 5 listeners");
        }
        Listener listener = listeners[listenerCount];
        listener.attach(branch, relation, hour, pairsOf(first, second));
        listener.begin(stateOf(row, row.size, hour));
        listenerCount++;
        return listenerCount - 1;
    }

    public int waiting(int listener) throws IndexOutOfBoundsException {
        return listenerAt(listener).untold;
    }

    public int next(int listener) throws IndexOutOfBoundsException, NoSuchElementException {
        Listener asked = listenerAt(listener);
        if (!asked.hasUntold()) {
            throw new NoSuchElementException("no change waits");
        }
        return asked.takeChange();
    }

    // ---- figures

    public long hours() {
        long sum = 0L;
        for (int i = 0; i < branchCount; i++) {
            sum += branches[i].hoursTold();
        }
        return sum;
    }

    public float derivedShare(int branch, int hour)
            throws IndexOutOfBoundsException, IllegalArgumentException, ArithmeticException {
        Branch row = branchAt(branch);
        checkHour(hour);
        State state = stateOf(row, row.size, hour);
        int all = 0;
        int derived = 0;
        for (int i = 0; i < RELATIONS; i++) {
            all += Long.bitCount(state.held[i]);
            derived += Long.bitCount(state.held[i] & ~state.told[i]);
        }
        if (all == 0) {
            throw new ArithmeticException("no fact holds");
        }
        return (float) derived / (float) all;
    }

    public double meanRank(int branch, int hour)
            throws IndexOutOfBoundsException, IllegalArgumentException, ArithmeticException {
        Branch row = branchAt(branch);
        checkHour(hour);
        reasons.read(book, stateOf(row, row.size, hour));
        int all = 0;
        int sum = 0;
        for (int fact = 0; fact < FACTS; fact++) {
            if (reasons.ranks[fact] != NONE) {
                all++;
                sum += reasons.ranks[fact];
            }
        }
        if (all == 0) {
            throw new ArithmeticException("no fact holds");
        }
        return (double) sum / (double) all;
    }

    public boolean isSound() {
        for (int i = 0; i < branchCount; i++) {
            if (!branches[i].hasTrueSeals() || !agreesWithAnew(branches[i])) {
                return false;
            }
        }
        return true;
    }

    // ---- what the calls share

    private static boolean isBelow(int number, int end) {
        return number >= 0 && number < end;
    }

    private static boolean isAmong(int number, int set) {
        return (set >> number & 1) != 0;
    }

    private static int chained(int sum, int next) {
        return (31 * sum + next) % MODULUS;
    }

    private Branch branchAt(int branch) {
        if (!isBelow(branch, branchCount)) {
            throw new IndexOutOfBoundsException("no such branch");
        }
        return branches[branch];
    }

    private Rule ruleAt(int rule) {
        if (!isBelow(rule, book.size)) {
            throw new IndexOutOfBoundsException("no such rule");
        }
        return book.rules[rule];
    }

    private Listener listenerAt(int listener) {
        if (!isBelow(listener, listenerCount)) {
            throw new IndexOutOfBoundsException("no such listener");
        }
        return listeners[listener];
    }

    private static void checkKnowing(Branch row, int knowing) {
        if (!isBelow(knowing, row.size + 1)) {
            throw new IndexOutOfBoundsException("no such knowing");
        }
    }

    private static void checkFact(int fact) {
        if (!isBelow(fact, FACTS)) {
            throw new IllegalArgumentException("no such fact");
        }
    }

    private static void checkHour(int hour) {
        if (!isBelow(hour, HOURS)) {
            throw new IllegalArgumentException("no such hour");
        }
    }

    private static void checkSpan(int from, int to) {
        if (!isBelow(from, HOURS) || !isBelow(to, HOURS) || to < from) {
            throw new IllegalArgumentException("an hour is out of range");
        }
    }

    private static void checkRelation(int relation) {
        if (!isBelow(relation, RELATIONS)) {
            throw new IllegalArgumentException("no such relation");
        }
    }

    private static void checkPattern(int relation, int one, int other) {
        if (!isBelow(relation, RELATIONS) || !isBelow(one, VARIABLES) || !isBelow(other, VARIABLES)) {
            throw new IllegalArgumentException("no such relation or variable");
        }
    }

    private static void checkRoom(Branch row) {
        if (row.isFull()) {
            throw new IllegalStateException("the branch has 60 tellings");
        }
    }

    private static void checkAsked(Branch row, int knowing, int hour, int fact) {
        checkKnowing(row, knowing);
        checkHour(hour);
        checkFact(fact);
    }

    private static void checkHeld(State state, int fact) {
        if (!state.has(fact)) {
            throw new NoSuchElementException("the fact does not hold");
        }
    }

    private boolean hasRival(Branch row, int fact, int from, int to) {
        int relation = fact / PAIRS;
        if (!uniques[relation]) {
            return false;
        }
        int pair = fact % PAIRS;
        long rivals = pairsOf(pair / THINGS, NONE) & ~(1L << pair);
        for (int hour = from; hour <= to; hour++) {
            row.read(row.size, hour, fresh);
            if ((fresh.told[relation] & rivals) != 0L) {
                return true;
            }
        }
        return false;
    }

    private boolean canBeTold(Branch row, Telling telling) {
        if (row.isFull()) {
            return false;
        }
        if (!telling.isSo) {
            return true;
        }
        return telling.isOfRule ? book.canBeOn(telling.about, row.rulesOn(row.size))
                : !hasRival(row, telling.about, telling.from, telling.to);
    }

    /** The pairs of things with this first and this second one; NONE stands for any. */
    private static long pairsOf(int first, int second) {
        long pairs = 0L;
        for (int pair = 0; pair < PAIRS; pair++) {
            if ((first == NONE || first == pair / THINGS) && (second == NONE || second == pair % THINGS)) {
                pairs |= 1L << pair;
            }
        }
        return pairs;
    }

    private State stateOf(Branch row, int knowing, int hour) {
        State kept = row.kept[hour];
        row.read(knowing, hour, fresh);
        if (!kept.isLike(fresh)) {
            book.derive(fresh);
            kept.copy(fresh);
        }
        return kept;
    }

    private State stateAnew(Branch row, int knowing, int hour) {
        row.read(knowing, hour, fresh);
        book.derive(fresh);
        return fresh;
    }

    private void findReason(int branch, int knowing, int hour, int fact) {
        Branch row = branchAt(branch);
        checkAsked(row, knowing, hour, fact);
        State state = stateOf(row, knowing, hour);
        checkHeld(state, fact);
        reasons.read(book, state);
    }

    private void inform(int branch) {
        for (int i = 0; i < listenerCount; i++) {
            Listener listener = listeners[i];
            if (listener.branch == branch) {
                Branch row = branches[branch];
                listener.hear(stateOf(row, row.size, listener.hour));
            }
        }
    }

    private boolean agreesWithAnew(Branch row) {
        for (int hour = 0; hour < HOURS; hour += SOUND_CHECK_STEP) {
            State kept = stateOf(row, row.size, hour);
            State anew = stateAnew(row, row.size, hour);
            for (int i = 0; i < RELATIONS; i++) {
                if (kept.held[i] != anew.held[i]) {
                    return false;
                }
            }
        }
        return true;
    }

    /** What one telling says: of a fact, whether it holds in a span; or of a rule, whether it is on. */
    private static final class Telling {
        boolean isOfRule;
        boolean isSo;
        int about;
        int from;
        int to;
        int digest;
        boolean forgotten;
        // The branch whose merge took it here, or NONE.
        int source;

        void setDigest() {
            if (isOfRule) {
                digest = chained(isSo ? 13 : 17, about);
            } else {
                digest = chained(chained(chained(isSo ? 7 : 11, about), from), to);
            }
        }

        void copy(Telling other) {
            isOfRule = other.isOfRule;
            isSo = other.isSo;
            about = other.about;
            from = other.from;
            to = other.to;
            digest = other.digest;
            forgotten = other.forgotten;
            source = NONE;
        }

        boolean isContraryTo(Telling other) {
            return isSo != other.isSo && isOfRule == other.isOfRule && about == other.about
                    && (isOfRule || from <= other.to && other.from <= to);
        }

        boolean concerns(int thing) {
            int pair = about % PAIRS;
            return !isOfRule && (pair / THINGS == thing || pair % THINGS == thing);
        }
    }

    /** A row of tellings with its seals, and what was last found for each hour. */
    private static final class Branch {
        final Telling[] tellings = new Telling[MOST_TELLINGS];
        final int[] seals = new int[MOST_TELLINGS + 1];
        final State[] kept = new State[HOURS];
        int size = 0;
        int origin = 0;
        int forkedAt = 0;
        int taken = 0;

        Branch() {
            for (int i = 0; i < MOST_TELLINGS; i++) {
                tellings[i] = new Telling();
            }
            for (int i = 0; i < HOURS; i++) {
                kept[i] = new State();
            }
            seals[0] = 1;
        }

        boolean isFull() {
            return size >= MOST_TELLINGS;
        }

        void append(boolean isOfRule, boolean isSo, int about, int from, int to, int source) {
            if (isFull()) {
                return;
            }
            Telling telling = tellings[size];
            telling.isOfRule = isOfRule;
            telling.isSo = isSo;
            telling.about = about;
            telling.from = from;
            telling.to = to;
            telling.forgotten = false;
            telling.source = source;
            telling.setDigest();
            seals[size + 1] = chained(seals[size], telling.digest);
            size++;
        }

        void becomeFork(Branch other, int branch, int knowing) {
            for (int i = 0; i < knowing; i++) {
                tellings[i].copy(other.tellings[i]);
                seals[i + 1] = other.seals[i + 1];
            }
            size = knowing;
            origin = branch;
            forkedAt = knowing;
            taken = knowing;
        }

        int rulesOn(int knowing) {
            int on = 0;
            for (int i = 0; i < knowing; i++) {
                Telling telling = tellings[i];
                if (telling.isOfRule) {
                    int bit = 1 << telling.about;
                    on = telling.isSo ? on | bit : on & ~bit;
                }
            }
            return on;
        }

        /** Puts what is told, and on, into a state; what follows from it is left as it was. */
        void read(int knowing, int hour, State state) {
            Arrays.fill(state.told, 0L);
            for (int i = 0; i < knowing; i++) {
                Telling telling = tellings[i];
                if (!telling.isOfRule && !telling.forgotten && telling.from <= hour && hour <= telling.to) {
                    int relation = telling.about / PAIRS;
                    long bit = 1L << telling.about % PAIRS;
                    state.told[relation] = telling.isSo ? state.told[relation] | bit : state.told[relation] & ~bit;
                }
            }
            state.on = rulesOn(knowing);
        }

        boolean hasContrary(Telling asked, int from, int taker) {
            for (int i = from; i < size; i++) {
                Telling telling = tellings[i];
                if (!telling.forgotten && telling.source != taker && telling.isContraryTo(asked)) {
                    return true;
                }
            }
            return false;
        }

        int forgetAbout(int thing) {
            int count = 0;
            for (int i = 0; i < size; i++) {
                Telling telling = tellings[i];
                if (!telling.forgotten && telling.concerns(thing)) {
                    telling.forgotten = true;
                    count++;
                }
            }
            return count;
        }

        long hoursTold() {
            long sum = 0L;
            for (int i = 0; i < size; i++) {
                Telling telling = tellings[i];
                if (!telling.isOfRule && !telling.forgotten) {
                    sum += telling.to - telling.from + 1;
                }
            }
            return sum;
        }

        boolean hasTrueSeals() {
            int due = 1;
            for (int i = 0; i < size; i++) {
                if (seals[i] != due) {
                    return false;
                }
                due = chained(due, tellings[i].digest);
            }
            return seals[size] == due;
        }
    }

    /**
     * What is told and what holds in one hour, a bit for each pair of things of each relation. All that holds comes
     * of what is told and of the rules that are on: a state that is alike in these can be used again, also after
     * things were forgotten.
     */
    private static final class State {
        final long[] told = new long[RELATIONS];
        final long[] held = new long[RELATIONS];
        int on = 0;

        boolean has(int fact) {
            return (held[fact / PAIRS] >>> fact % PAIRS & 1L) != 0L;
        }

        boolean isLike(State other) {
            for (int i = 0; i < RELATIONS; i++) {
                if (told[i] != other.told[i]) {
                    return false;
                }
            }
            return on == other.on;
        }

        void copy(State other) {
            System.arraycopy(other.told, 0, told, 0, RELATIONS);
            System.arraycopy(other.held, 0, held, 0, RELATIONS);
            on = other.on;
        }
    }

    /**
     * A relation with two variables: the head of a rule, or a condition. A way to put things for the variables is a
     * number with an octal digit for each, the variable 0 first, so that rising numbers are the order of reasons.
     */
    private static final class Pattern {
        int relation;
        boolean isContrary;
        int oneShift;
        int otherShift;

        void become(int newRelation, int one, int other, boolean isNowContrary) {
            relation = newRelation;
            isContrary = isNowContrary;
            oneShift = shiftOf(one);
            otherShift = shiftOf(other);
        }

        private static int shiftOf(int variable) {
            return 3 * (VARIABLES - 1 - variable);
        }

        int pairOf(int way) {
            return THINGS * (way >> oneShift & 7) + (way >> otherShift & 7);
        }

        int factOf(int way) {
            return PAIRS * relation + pairOf(way);
        }

        int digits() {
            return 7 << oneShift | 7 << otherShift;
        }

        /** The digits behind its last variable: ways that differ only in these are the same to it. */
        int freeDigits() {
            return (1 << (oneShift < otherShift ? oneShift : otherShift)) - 1;
        }
    }

    private static final class Rule {
        final Pattern head = new Pattern();
        final Pattern[] conditions = new Pattern[MOST_CONDITIONS];
        int size = 0;
        int straightRelations = 0;
        // Those of variables that are not in the rule: as things put for them make no difference, 0 stands for all.
        int idleDigits = WAYS - 1;
        boolean wasOn = false;

        Rule() {
            for (int i = 0; i < MOST_CONDITIONS; i++) {
                conditions[i] = new Pattern();
            }
        }

        void setHead(int relation, int first, int second) {
            head.become(relation, first, second, false);
            idleDigits &= ~head.digits();
        }

        void append(int relation, int one, int other, boolean isContrary) {
            if (size >= MOST_CONDITIONS) {
                return;
            }
            conditions[size].become(relation, one, other, isContrary);
            idleDigits &= ~conditions[size].digits();
            if (!isContrary) {
                straightRelations |= 1 << relation;
            }
            size++;
        }

        boolean isBound() {
            int bound = idleDigits;
            for (int i = 0; i < size; i++) {
                bound |= conditions[i].isContrary ? 0 : conditions[i].digits();
            }
            return bound == WAYS - 1;
        }

        /** FITS, or else digits of the way such that no way that differs from it only in these fits either. */
        int misfit(int way, long[] straight, long[] held) {
            int idle = way & idleDigits;
            if (idle != 0) {
                return idle >= PAIRS ? WAYS - 1 : idle >= THINGS ? PAIRS - 1 : THINGS - 1;
            }
            for (int i = 0; i < size; i++) {
                Pattern condition = conditions[i];
                long facts = condition.isContrary ? held[condition.relation] : straight[condition.relation];
                boolean isThere = (facts >>> condition.pairOf(way) & 1L) != 0L;
                if (isThere == condition.isContrary) {
                    return condition.freeDigits();
                }
            }
            return FITS;
        }

        long headsFrom(long[] held) {
            long heads = 0L;
            int skipped = 0;
            for (int way = 0; way < WAYS; way = (way | skipped) + 1) {
                skipped = misfit(way, held, held);
                if (skipped == FITS) {
                    heads |= 1L << head.pairOf(way);
                    skipped = 0;
                }
            }
            return heads;
        }
    }

    private static final class RuleBook {
        final Rule[] rules = new Rule[MOST_RULES];
        final int[] layers = new int[RELATIONS];
        int size = 0;

        RuleBook() {
            for (int i = 0; i < MOST_RULES; i++) {
                rules[i] = new Rule();
            }
        }

        boolean canBeOn(int rule, int on) {
            return rules[rule].isBound() && findLayers(on | 1 << rule);
        }

        /** Finds the layers by these rules; answers whether there are any. */
        boolean findLayers(int on) {
            Arrays.fill(layers, 0);
            boolean isRaised = true;
            for (int step = 0; isRaised && step <= RELATIONS * RELATIONS; step++) {
                isRaised = false;
                for (int i = 0; i < size; i++) {
                    int least = isAmong(i, on) ? leastLayer(rules[i]) : 0;
                    if (least > TOP_LAYER) {
                        return false;
                    }
                    if (least > layers[rules[i].head.relation]) {
                        layers[rules[i].head.relation] = least;
                        isRaised = true;
                    }
                }
            }
            return true;
        }

        private int leastLayer(Rule rule) {
            int least = 0;
            for (int i = 0; i < rule.size; i++) {
                Pattern condition = rule.conditions[i];
                int below = layers[condition.relation];
                least = Math.max(least, condition.isContrary ? below + 1 : below);
            }
            return least;
        }

        void derive(State state) {
            System.arraycopy(state.told, 0, state.held, 0, RELATIONS);
            findLayers(state.on);
            for (int layer = 0; layer <= TOP_LAYER; layer++) {
                deriveLayer(state, layer);
            }
        }

        private void deriveLayer(State state, int layer) {
            int grown = EVERY_RELATION;
            for (int step = 0; grown != 0 && step <= FACTS; step++) {
                int feeding = grown;
                grown = 0;
                for (int i = 0; i < size; i++) {
                    Rule rule = rules[i];
                    int head = rule.head.relation;
                    if (isAmong(i, state.on) && layers[head] == layer && (rule.straightRelations & feeding) != 0) {
                        long before = state.held[head];
                        state.held[head] |= rule.headsFrom(state.held);
                        grown |= state.held[head] == before ? 0 : 1 << head;
                    }
                }
            }
        }
    }

    /** The ranks and reasons of all that holds in one state. */
    private static final class Reasons {
        final State last = new State();
        final int[] ranks = new int[FACTS];
        final int[] rulesUsed = new int[FACTS];
        final int[] waysUsed = new int[FACTS];
        final long[] reached = new long[RELATIONS];
        final long[] added = new long[RELATIONS];
        final long[] seen = new long[RELATIONS];
        final int[] queue = new int[FACTS];

        Reasons() {
            Arrays.fill(ranks, NONE);
        }

        /**
         * Goes out from what is told step by step: a fact has the number of the step that reaches it as its rank,
         * and the first rule and way by which this step comes to it are its reason.
         */
        void read(RuleBook book, State state) {
            if (last.isLike(state)) {
                return;
            }
            last.copy(state);
            begin();
            int grown = EVERY_RELATION;
            for (int rank = 1; grown != 0 && rank <= FACTS; rank++) {
                for (int i = 0; i < book.size; i++) {
                    if (isAmong(i, last.on) && (book.rules[i].straightRelations & grown) != 0) {
                        reachBy(book.rules[i], i, rank);
                    }
                }
                grown = endStep();
            }
        }

        private void begin() {
            System.arraycopy(last.told, 0, reached, 0, RELATIONS);
            Arrays.fill(added, 0L);
            for (int fact = 0; fact < FACTS; fact++) {
                boolean isTold = (reached[fact / PAIRS] >>> fact % PAIRS & 1L) != 0L;
                ranks[fact] = isTold ? 0 : NONE;
            }
        }

        private void reachBy(Rule rule, int number, int rank) {
            int skipped = 0;
            for (int way = 0; way < WAYS; way = (way | skipped) + 1) {
                skipped = rule.misfit(way, reached, last.held);
                if (skipped == FITS) {
                    reach(rule.head.factOf(way), number, way, rank);
                    skipped = 0;
                }
            }
        }

        private void reach(int fact, int rule, int way, int rank) {
            if (ranks[fact] == NONE) {
                ranks[fact] = rank;
                rulesUsed[fact] = rule;
                waysUsed[fact] = way;
                added[fact / PAIRS] |= 1L << fact % PAIRS;
            }
        }

        private int endStep() {
            int grown = 0;
            for (int i = 0; i < RELATIONS; i++) {
                grown |= added[i] == 0L ? 0 : 1 << i;
                reached[i] |= added[i];
                added[i] = 0L;
            }
            return grown;
        }

        int ruleOf(int fact) {
            return ranks[fact] > 0 ? rulesUsed[fact] : NONE;
        }

        /** The fact of a straight condition of the reason of a fact, or NONE. */
        int premise(RuleBook book, int fact, int index) {
            if (ranks[fact] <= 0) {
                return NONE;
            }
            Rule rule = book.rules[rulesUsed[fact]];
            int left = index;
            for (int i = 0; i < rule.size; i++) {
                if (!rule.conditions[i].isContrary) {
                    if (left == 0) {
                        return rule.conditions[i].factOf(waysUsed[fact]);
                    }
                    left--;
                }
            }
            return NONE;
        }

        int proofSize(RuleBook book, int fact) {
            Arrays.fill(seen, 0L);
            int size = enqueue(fact, 0);
            for (int i = 0; i < size; i++) {
                for (int j = 0; j < MOST_CONDITIONS; j++) {
                    int premise = premise(book, queue[i], j);
                    size = premise == NONE ? size : enqueue(premise, size);
                }
            }
            return size;
        }

        private int enqueue(int fact, int size) {
            long bit = 1L << fact % PAIRS;
            if ((seen[fact / PAIRS] & bit) != 0L || size >= FACTS) {
                return size;
            }
            seen[fact / PAIRS] |= bit;
            queue[size] = fact;
            return size + 1;
        }
    }

    /** Keeps for each call that changed something which facts came and which went, until they are asked for. */
    private static final class Listener {
        final long[] come = new long[MOST_CHANGES];
        final long[] gone = new long[MOST_CHANGES];
        int branch = 0;
        int relation = 0;
        int hour = 0;
        long pairs = 0L;
        long heldBefore = 0L;
        int first = 0;
        int end = 0;
        int untold = 0;

        void attach(int newBranch, int newRelation, int newHour, long newPairs) {
            branch = newBranch;
            relation = newRelation;
            hour = newHour;
            pairs = newPairs;
        }

        void begin(State state) {
            heldBefore = state.held[relation] & pairs;
        }

        void hear(State state) {
            long heldNow = state.held[relation] & pairs;
            if (heldNow != heldBefore && end < MOST_CHANGES) {
                come[end] = heldNow & ~heldBefore;
                gone[end] = heldBefore & ~heldNow;
                untold += Long.bitCount(heldNow ^ heldBefore);
                end++;
            }
            heldBefore = heldNow;
        }

        boolean hasUntold() {
            return first < end;
        }

        /** The change that has waited longest, or 0. */
        int takeChange() {
            if (!hasUntold()) {
                return 0;
            }
            long changed = come[first] | gone[first];
            int pair = 0;
            while (pair < PAIRS - 1 && (changed >>> pair & 1L) == 0L) {
                pair++;
            }
            long bit = 1L << pair;
            int change = 1 + PAIRS * relation + pair;
            boolean isGone = (gone[first] & bit) != 0L;
            come[first] &= ~bit;
            gone[first] &= ~bit;
            if (changed == bit) {
                first++;
            }
            untold--;
            return isGone ? -change : change;
        }
    }
}
