/** Promises 10 to 16: knowing, holds, holdsAnew, count, spanFrom, spanTo, since. */
final class AnswersTest {
    private static final int[] WRONG = {-1, 99, Integer.MIN_VALUE, Integer.MAX_VALUE};

    private AnswersTest() {
    }

    static void run() {
        knowing();
        stepsOfOneLayer();
        variablesPutAlike();
        layersOneByOne();
        sixLayers();
        layersOfTheBranchAsked();
        pastKnowings();
        refusedHolds();
        count();
        spans();
        refusedSpans();
        since();
        sinceWithRules();
    }

    /** Relation 1 is the transitive closure of relation 0. */
    private static Versefold withClosure() {
        Versefold x = new Versefold();
        x.addRule(1, 0, 1, 0, 0, 1);
        x.addRule(1, 0, 2, 1, 0, 1);
        x.addCondition(1, 0, 1, 2, false);
        x.turn(0, 0, true);
        x.turn(0, 1, true);
        return x;
    }

    private static void dueHolds(boolean want, Versefold x, int branch, int knowing, int hour, int fact) {
        String what = "holds " + branch + " " + knowing + " " + hour + " " + fact;
        Check.due(what + " anew", want, x.holdsAnew(branch, knowing, hour, fact));
        Check.due(what, want, x.holds(branch, knowing, hour, fact));
    }

    private static void knowing() {
        Versefold x = withClosure();
        Check.due("two tellings of rules", 2, x.knowing(0));
        x.tell(0, 0, 0, 0);
        x.untell(0, 0, 0, 0);
        Check.due("and two of a fact", 4, x.knowing(0));
        x.fork(0, 3);
        Check.due("of the fork", 3, x.knowing(1));
        x.forget(0);
        Check.due("forgotten ones count", 4, x.knowing(0));
        for (int wrong : new int[] {-1, 2, 4, Integer.MIN_VALUE, Integer.MAX_VALUE}) {
            Check.refused("no branch", IndexOutOfBoundsException.class, () -> x.knowing(wrong));
        }
    }

    private static void stepsOfOneLayer() {
        Versefold x = withClosure();
        for (int thing = 0; thing < 7; thing++) {
            x.tell(0, 8 * (6 - thing) + 7 - thing, 0, 23);
        }
        dueHolds(true, x, 0, 9, 4, 64 + 7);
        dueHolds(false, x, 0, 8, 4, 64 + 7);
        dueHolds(true, x, 0, 8, 4, 64 + 8 + 7);
        dueHolds(false, x, 0, 9, 4, 64 + 8);
        Check.due("28 pairs", 28, x.count(0, 9, 4, 1));
        x.tell(0, 8 * 7, 0, 23);
        Check.due("all pairs", 64, x.count(0, 10, 4, 1));
    }

    private static void variablesPutAlike() {
        Versefold x = new Versefold();
        x.addRule(1, 0, 0, 0, 0, 0);
        x.addRule(2, 1, 1, 0, 0, 1);
        x.addRule(3, 0, 1, 0, 0, 1);
        x.addCondition(2, 0, 1, 0, false);
        for (int rule = 0; rule < 3; rule++) {
            x.turn(0, rule, true);
        }
        x.tell(0, 9, 0, 0);
        x.tell(0, 8 + 2, 0, 0);
        x.tell(0, 16 + 1, 0, 0);
        x.tell(0, 16 + 3, 0, 0);
        Check.due("one that has itself", 1, x.count(0, 7, 0, 1));
        dueHolds(true, x, 0, 7, 0, 64 + 9);
        Check.due("three seconds", 3, x.count(0, 7, 0, 2));
        dueHolds(true, x, 0, 7, 0, 128 + 27);
        Check.due("both ways round", 3, x.count(0, 7, 0, 3));
        dueHolds(true, x, 0, 7, 0, 192 + 10);
        dueHolds(true, x, 0, 7, 0, 192 + 17);
        dueHolds(false, x, 0, 7, 0, 192 + 19);
    }

    private static void layersOneByOne() {
        Versefold x = new Versefold();
        x.addRule(2, 0, 1, 1, 0, 1);
        x.addCondition(0, 3, 0, 1, true);
        x.addRule(3, 0, 1, 4, 0, 1);
        x.addRule(5, 0, 1, 1, 0, 1);
        x.addCondition(2, 2, 0, 1, true);
        for (int rule = 0; rule < 3; rule++) {
            x.turn(0, rule, true);
        }
        x.tell(0, 64 + 5, 0, 10);
        dueHolds(true, x, 0, 4, 5, 128 + 5);
        dueHolds(false, x, 0, 4, 5, 320 + 5);
        x.tell(0, 256 + 5, 5, 5);
        dueHolds(true, x, 0, 5, 5, 192 + 5);
        dueHolds(false, x, 0, 5, 5, 128 + 5);
        dueHolds(true, x, 0, 5, 5, 320 + 5);
        dueHolds(false, x, 0, 5, 6, 320 + 5);
        x.tell(0, 128 + 5, 0, 23);
        dueHolds(true, x, 0, 6, 5, 128 + 5);
        dueHolds(false, x, 0, 6, 5, 320 + 5);
        x.untell(0, 128 + 5, 0, 23);
        dueHolds(true, x, 0, 7, 6, 128 + 5);
    }

    /** Each relation holds where the relation 0 does and the one below does not. */
    private static void sixLayers() {
        Versefold x = new Versefold();
        for (int rule = 0; rule < 5; rule++) {
            x.addRule(rule + 1, 0, 1, 0, 0, 1);
            x.addCondition(rule, rule, rule == 0 ? 1 : 0, rule == 0 ? 0 : 1, true);
        }
        for (int rule = 4; rule >= 0; rule--) {
            x.turn(0, rule, true);
        }
        x.tell(0, 1, 0, 23);
        x.tell(0, 8, 9, 9);
        int[] oneWay = {1, 1, 0, 1, 0, 1};
        int[] bothWays = {2, 0, 2, 0, 2, 0};
        for (int relation = 0; relation < 6; relation++) {
            Check.due("relation " + relation, oneWay[relation], x.count(0, 7, 8, relation));
            Check.due("relation " + relation + " at 9", bothWays[relation], x.count(0, 7, 9, relation));
            Check.due("layer " + relation, relation, x.layer(0, relation));
        }
    }

    private static void layersOfTheBranchAsked() {
        Versefold x = new Versefold();
        x.addRule(2, 0, 1, 0, 0, 1);
        x.addCondition(0, 1, 0, 1, true);
        x.addRule(1, 0, 1, 0, 0, 1);
        x.turn(0, 0, true);
        x.turn(0, 1, true);
        x.tell(0, 1, 0, 0);
        x.fork(0, 0);
        for (int relation = 0; relation < 6; relation++) {
            Check.due("no layers there", 0, x.layer(1, relation));
        }
        dueHolds(false, x, 0, 3, 0, 128 + 1);
        x.layer(1, 2);
        dueHolds(true, x, 0, 3, 0, 64 + 1);
    }

    private static void pastKnowings() {
        Versefold x = withClosure();
        x.tell(0, 1, 0, 23);
        x.tell(0, 10, 0, 23);
        x.turn(0, 1, false);
        x.untell(0, 1, 3, 3);
        int[] counts = {0, 0, 0, 1, 3, 2, 1};
        for (int round = 0; round < 2; round++) {
            for (int knowing = 0; knowing <= 6; knowing++) {
                Check.due("by the knowing " + knowing, counts[knowing], x.count(0, knowing, 3, 1));
                dueHolds(knowing == 4, x, 0, knowing, 3, 64 + 2);
            }
            x.setUnique(1, true);
            x.addRule(1, 0, 1, 0, 1, 0);
        }
    }

    private static void refusedHolds() {
        Versefold x = withClosure();
        x.fork(0, 1);
        for (int wrong : WRONG) {
            Check.refused("no branch", IndexOutOfBoundsException.class, () -> x.holds(wrong, 0, 24, 384));
            Check.refused("no branch", IndexOutOfBoundsException.class, () -> x.holdsAnew(wrong, 0, 24, 384));
            Check.refused("no branch", IndexOutOfBoundsException.class, () -> x.count(wrong, 0, 24, 6));
            Check.refused("no knowing", IndexOutOfBoundsException.class, () -> x.holds(0, wrong, 24, 384));
            Check.refused("no knowing", IndexOutOfBoundsException.class, () -> x.holdsAnew(0, wrong, 24, 384));
            Check.refused("no knowing", IndexOutOfBoundsException.class, () -> x.count(0, wrong, 24, 6));
            Check.refused("no hour", IllegalArgumentException.class, () -> x.holds(0, 0, wrong, 0));
            Check.refused("no hour", IllegalArgumentException.class, () -> x.holdsAnew(0, 0, wrong, 0));
            Check.refused("no hour", IllegalArgumentException.class, () -> x.count(0, 0, wrong, 0));
            Check.refused("no relation", IllegalArgumentException.class, () -> x.count(0, 0, 0, wrong));
        }
        for (int fact : new int[] {-1, 384, Integer.MIN_VALUE, Integer.MAX_VALUE}) {
            Check.refused("no fact", IllegalArgumentException.class, () -> x.holds(0, 0, 0, fact));
            Check.refused("no fact", IllegalArgumentException.class, () -> x.holdsAnew(0, 0, 0, fact));
        }
        Check.refused("a knowing of the other branch", IndexOutOfBoundsException.class, () -> x.holds(1, 2, 0, 0));
        Check.refused("the next branch", IndexOutOfBoundsException.class, () -> x.holds(2, 0, 0, 0));
        Check.refused("the next knowing", IndexOutOfBoundsException.class, () -> x.holdsAnew(0, 3, 0, 0));
        Check.refused("the next hour", IllegalArgumentException.class, () -> x.holdsAnew(0, 2, 24, 0));
        Check.refused("the next hour", IllegalArgumentException.class, () -> x.count(0, 2, 24, 0));
        Check.refused("the next relation", IllegalArgumentException.class, () -> x.count(0, 2, 23, 6));
        dueHolds(false, x, 0, 2, 23, 383);
        dueHolds(false, x, 1, 1, 23, 383);
    }

    private static void count() {
        Versefold x = new Versefold();
        x.tell(0, 0, 0, 10);
        x.tell(0, 63, 5, 10);
        x.tell(0, 64, 5, 10);
        x.tell(0, 0, 9, 10);
        Check.due("one at 4", 1, x.count(0, 4, 4, 0));
        Check.due("two at 5", 2, x.count(0, 4, 5, 0));
        Check.due("told twice counts once", 2, x.count(0, 4, 9, 0));
        Check.due("of the other relation", 1, x.count(0, 4, 9, 1));
        Check.due("of a third one", 0, x.count(0, 4, 9, 2));
        Check.due("by the knowing 1", 1, x.count(0, 1, 9, 0));
        Check.due("by the knowing 0", 0, x.count(0, 0, 9, 0));
    }

    private static void spans() {
        Versefold x = withClosure();
        x.tell(0, 1, 2, 20);
        x.tell(0, 10, 4, 9);
        x.tell(0, 10, 10, 23);
        x.untell(0, 1, 15, 16);
        int[][] want = {{4, 4, 14}, {9, 4, 14}, {10, 4, 14}, {14, 4, 14}, {17, 17, 20}, {20, 17, 20}};
        for (int[] row : want) {
            Check.due("derived, from, around " + row[0], row[1], x.spanFrom(0, 6, row[0], 66));
            Check.due("derived, to, around " + row[0], row[2], x.spanTo(0, 6, row[0], 66));
        }
        Check.due("to the last hour", 23, x.spanTo(0, 6, 20, 10));
        Check.due("from its first", 4, x.spanFrom(0, 6, 20, 10));
        Check.due("by a knowing of before, from", 4, x.spanFrom(0, 5, 17, 66));
        Check.due("by a knowing of before, to", 20, x.spanTo(0, 5, 14, 66));
        x.tell(0, 3, 0, 23);
        Check.due("from the hour 0", 0, x.spanFrom(0, 7, 23, 3));
        Check.due("to the hour 23", 23, x.spanTo(0, 7, 0, 3));
        x.tell(0, 66, 15, 15);
        Check.due("a telling joins what is derived", 15, x.spanTo(0, 8, 4, 66));
        Check.due("and is joined to it", 4, x.spanFrom(0, 8, 15, 66));
    }

    private static void refusedSpans() {
        Versefold x = withClosure();
        x.tell(0, 1, 5, 6);
        for (int wrong : WRONG) {
            Check.refused("no branch", IndexOutOfBoundsException.class, () -> x.spanFrom(wrong, 0, 24, 384));
            Check.refused("no branch", IndexOutOfBoundsException.class, () -> x.spanTo(wrong, 0, 24, 384));
            Check.refused("no knowing", IndexOutOfBoundsException.class, () -> x.spanFrom(0, wrong, 24, 384));
            Check.refused("no knowing", IndexOutOfBoundsException.class, () -> x.spanTo(0, wrong, 24, 384));
            Check.refused("no hour", IllegalArgumentException.class, () -> x.spanFrom(0, 0, wrong, 0));
            Check.refused("no hour", IllegalArgumentException.class, () -> x.spanTo(0, 0, wrong, 0));
        }
        for (int fact : new int[] {-1, 384, Integer.MIN_VALUE, Integer.MAX_VALUE}) {
            Check.refused("no fact", IllegalArgumentException.class, () -> x.spanFrom(0, 0, 0, fact));
            Check.refused("no fact", IllegalArgumentException.class, () -> x.spanTo(0, 0, 0, fact));
        }
        int[][] notHeld = {{4, 1, 3}, {7, 1, 3}, {5, 1, 2}, {5, 2, 3}, {4, 65, 3}};
        for (int[] row : notHeld) {
            Check.refused("not held", java.util.NoSuchElementException.class,
                    () -> x.spanFrom(0, row[2], row[0], row[1]));
            Check.refused("not held", java.util.NoSuchElementException.class,
                    () -> x.spanTo(0, row[2], row[0], row[1]));
        }
    }

    private static void since() {
        Versefold x = new Versefold();
        Check.due("nothing told", 0, x.since(0, 0, 0));
        x.tell(0, 0, 0, 5);
        Check.due("since it was told", 1, x.since(0, 5, 0));
        Check.due("never told in this hour", 0, x.since(0, 6, 0));
        x.tell(0, 0, 0, 5);
        x.tell(0, 1, 0, 5);
        Check.due("telling again changes nothing", 1, x.since(0, 5, 0));
        Check.due("the other", 3, x.since(0, 5, 1));
        x.untell(0, 0, 3, 5);
        Check.due("untold", 4, x.since(0, 5, 0));
        Check.due("still told", 1, x.since(0, 2, 0));
        x.untell(0, 7, 0, 23);
        Check.due("untold what was not told", 0, x.since(0, 2, 7));
        x.tell(0, 0, 3, 3);
        Check.due("told again", 6, x.since(0, 3, 0));
        x.forget(1);
        Check.due("forgotten as if it never was", 0, x.since(0, 5, 1));
    }

    private static void sinceWithRules() {
        Versefold x = withClosure();
        x.tell(0, 1, 0, 5);
        x.tell(0, 10, 5, 9);
        Check.due("derived since", 4, x.since(0, 5, 66));
        x.tell(0, 66, 5, 5);
        x.turn(0, 1, false);
        Check.due("told in time", 4, x.since(0, 5, 66));
        x.untell(0, 66, 5, 5);
        Check.due("neither", 7, x.since(0, 5, 66));
        x.fork(0, 5);
        Check.due("in the fork", 4, x.since(1, 5, 66));
        for (int wrong : WRONG) {
            Check.refused("no branch", IndexOutOfBoundsException.class, () -> x.since(wrong, 24, 384));
            Check.refused("no hour", IllegalArgumentException.class, () -> x.since(0, wrong, 0));
        }
        Check.refused("hour 24", IllegalArgumentException.class, () -> x.since(0, 24, 0));
        for (int fact : new int[] {-1, 384, Integer.MIN_VALUE, Integer.MAX_VALUE}) {
            Check.refused("no fact", IllegalArgumentException.class, () -> x.since(0, 0, fact));
        }
    }
}
