/** Promises 5 to 9: addRule, addCondition, turn, isOn, layer. */
final class RulesTest {
    private RulesTest() {
    }

    static void run() {
        addRule();
        refusedRules();
        tenRules();
        addCondition();
        refusedConditions();
        turn();
        unboundVariables();
        noLayers();
        refusedTurns();
        isOn();
        layer();
        layersOfBranches();
    }

    private static void addRule() {
        Versefold x = new Versefold();
        Check.due("the first rule", 0, x.addRule(5, 2, 0, 4, 2, 0));
        Check.due("the second rule", 1, x.addRule(1, 1, 0, 0, 0, 1));
        x.tell(0, 64 * 4 + 8 * 3 + 6, 0, 0);
        x.tell(0, 8 * 2 + 7, 0, 0);
        Check.due("on in no branch", 0, x.count(0, 2, 0, 5) + x.count(0, 2, 0, 1));
        Check.due("no telling is made", 2, x.knowing(0));
        x.turn(0, 0, true);
        x.turn(0, 1, true);
        Check.due("the variable 2 and 0", true, x.holds(0, 4, 0, 64 * 5 + 8 * 3 + 6));
        Check.due("turned round", true, x.holds(0, 4, 0, 64 + 8 * 7 + 2));
        Check.due("and only this", 1, x.count(0, 4, 0, 1));
        Check.due("off in a fork of before", false, x.isOn(x.fork(0, 2), 0, 2));
    }

    private static void refusedRules() {
        Versefold x = new Versefold();
        int[] wrong = {-1, 6, Integer.MIN_VALUE, Integer.MAX_VALUE};
        for (int relation : wrong) {
            Check.refused("no head", IllegalArgumentException.class, () -> x.addRule(relation, 0, 0, 0, 0, 0));
            Check.refused("no condition", IllegalArgumentException.class, () -> x.addRule(0, 0, 0, relation, 0, 0));
        }
        for (int variable : new int[] {-1, 3, Integer.MIN_VALUE, Integer.MAX_VALUE}) {
            Check.refused("no first", IllegalArgumentException.class, () -> x.addRule(0, variable, 0, 0, 0, 0));
            Check.refused("no second", IllegalArgumentException.class, () -> x.addRule(0, 0, variable, 0, 0, 0));
            Check.refused("no one", IllegalArgumentException.class, () -> x.addRule(0, 0, 0, 0, variable, 0));
            Check.refused("no other", IllegalArgumentException.class, () -> x.addRule(0, 0, 0, 0, 0, variable));
        }
        Check.due("none was added", 0, x.addRule(0, 0, 0, 0, 0, 0));
    }

    private static void tenRules() {
        Versefold x = new Versefold();
        for (int i = 0; i < 10; i++) {
            Check.due("rule " + i, i, x.addRule(i % 6, 0, 1, 5 - i % 6, 0, 1));
        }
        Check.refused("an eleventh rule", IllegalStateException.class, () -> x.addRule(0, 0, 0, 0, 0, 0));
        Check.refused("the argument comes first", IllegalArgumentException.class,
                () -> x.addRule(0, 0, 3, 0, 0, 0));
        Check.due("the tenth can be on", 1, x.turn(0, 9, true));
        Check.refused("no rule 10", IndexOutOfBoundsException.class, () -> x.turn(0, 10, true));
    }

    private static void addCondition() {
        Versefold x = new Versefold();
        x.addRule(2, 0, 2, 0, 0, 1);
        Check.due("two conditions", 2, x.addCondition(0, 0, 1, 2, false));
        Check.due("three conditions", 3, x.addCondition(0, 1, 0, 2, true));
        x.tell(0, 8 + 2, 0, 23);
        x.tell(0, 16 + 3, 0, 23);
        x.tell(0, 16 + 4, 0, 23);
        x.tell(0, 64 + 8 + 4, 0, 11);
        x.turn(0, 0, true);
        Check.due("1 to 3 by 2", true, x.holds(0, 5, 0, 128 + 8 + 3));
        Check.due("1 to 4 is forbidden", false, x.holds(0, 5, 0, 128 + 8 + 4));
        Check.due("but not later", true, x.holds(0, 5, 12, 128 + 8 + 4));
        Check.due("nothing else", 1, x.count(0, 5, 0, 2));
        x.addRule(3, 0, 1, 0, 0, 1);
        x.turn(0, 1, false);
        Check.due("a rule that was only off takes conditions", 2, x.addCondition(1, 0, 1, 0, false));
    }

    private static void refusedConditions() {
        Versefold x = new Versefold();
        x.addRule(2, 0, 1, 0, 0, 1);
        for (int rule : new int[] {-1, 1, 10, Integer.MIN_VALUE, Integer.MAX_VALUE}) {
            Check.refused("no rule", IndexOutOfBoundsException.class, () -> x.addCondition(rule, 6, 0, 0, false));
        }
        for (int relation : new int[] {-1, 6, Integer.MAX_VALUE}) {
            Check.refused("no relation", IllegalArgumentException.class,
                    () -> x.addCondition(0, relation, 0, 0, false));
        }
        for (int variable : new int[] {-1, 3, Integer.MIN_VALUE}) {
            Check.refused("no one", IllegalArgumentException.class,
                    () -> x.addCondition(0, 0, variable, 0, true));
            Check.refused("no other", IllegalArgumentException.class,
                    () -> x.addCondition(0, 0, 0, variable, true));
        }
        Check.due("none of these was added", 2, x.addCondition(0, 0, 0, 1, false));
        x.addCondition(0, 0, 0, 1, false);
        Check.refused("three there", IllegalStateException.class, () -> x.addCondition(0, 0, 0, 1, false));
        Check.refused("the argument comes first", IllegalArgumentException.class,
                () -> x.addCondition(0, 0, 0, 3, false));
        x.addRule(2, 0, 1, 0, 0, 1);
        int branch = x.fork(0, 0);
        x.turn(branch, 1, true);
        Check.refused("on in some branch", IllegalStateException.class, () -> x.addCondition(1, 0, 0, 1, false));
        x.turn(branch, 1, false);
        Check.refused("was on", IllegalStateException.class, () -> x.addCondition(1, 0, 0, 1, false));
        x.addRule(2, 0, 2, 0, 0, 1);
        Check.refused("cannot be on", UnsupportedOperationException.class, () -> x.turn(0, 2, true));
        Check.due("so it was never on", 2, x.addCondition(2, 0, 1, 2, false));
    }

    private static void turn() {
        Versefold x = new Versefold();
        x.addRule(1, 0, 1, 0, 0, 1);
        x.tell(0, 1, 0, 23);
        Check.due("off already", 2, x.turn(0, 0, false));
        Check.due("on", 3, x.turn(0, 0, true));
        Check.due("on again", 4, x.turn(0, 0, true));
        Check.due("off", 5, x.turn(0, 0, false));
        boolean[] want = {false, false, false, true, true, false};
        for (int knowing = 0; knowing < want.length; knowing++) {
            Check.due("by the knowing " + knowing, want[knowing], x.holds(0, knowing, 9, 65));
        }
    }

    private static void unboundVariables() {
        Versefold x = new Versefold();
        x.addRule(1, 0, 2, 0, 0, 1);
        Check.refused("the head has a free variable", UnsupportedOperationException.class, () -> x.turn(0, 0, true));
        x.addCondition(0, 2, 0, 2, true);
        Check.refused("a contrary condition does not bind it", UnsupportedOperationException.class,
                () -> x.turn(0, 0, true));
        x.addCondition(0, 0, 2, 2, false);
        Check.due("a straight one does", 1, x.turn(0, 0, true));
        x.addRule(1, 1, 1, 0, 1, 1);
        x.addCondition(1, 2, 1, 0, true);
        Check.refused("free in a contrary condition", UnsupportedOperationException.class,
                () -> x.turn(0, 1, true));
        Check.due("it may be off", 2, x.turn(0, 1, false));
        x.addRule(3, 2, 2, 0, 2, 2);
        Check.due("one variable alone", 3, x.turn(0, 2, true));
    }

    private static void noLayers() {
        Versefold x = new Versefold();
        x.addRule(1, 0, 1, 0, 0, 1);
        x.addCondition(0, 1, 0, 1, true);
        Check.refused("contrary to its own head", UnsupportedOperationException.class, () -> x.turn(0, 0, true));
        x.addRule(1, 0, 1, 0, 0, 1);
        x.addCondition(1, 2, 0, 1, true);
        x.addRule(2, 0, 1, 3, 0, 1);
        x.addRule(3, 0, 1, 1, 0, 1);
        Check.due("1 over 2", 1, x.turn(0, 1, true));
        Check.due("2 from 3", 2, x.turn(0, 2, true));
        Check.refused("3 from 1 closes the round", UnsupportedOperationException.class, () -> x.turn(0, 3, true));
        Check.due("each layer stays", 1, x.layer(0, 1));
        Check.due("2 from 3 is off", 3, x.turn(0, 2, false));
        Check.due("then 3 from 1", 4, x.turn(0, 3, true));
        Check.refused("then 2 from 3 closes it", UnsupportedOperationException.class, () -> x.turn(0, 2, true));
        Check.due("in another branch it does not", 1, x.fork(0, 0));
        Check.due("2 from 3 there", 1, x.turn(1, 2, true));
        x.addRule(4, 0, 1, 4, 1, 0);
        Check.due("a straight round is none", 5, x.turn(0, 4, true));
    }

    private static void refusedTurns() {
        Versefold x = new Versefold();
        x.addRule(1, 0, 1, 0, 0, 1);
        x.addRule(1, 0, 2, 0, 0, 1);
        for (int wrong : new int[] {-1, 2, 10, Integer.MIN_VALUE, Integer.MAX_VALUE}) {
            Check.refused("no branch", IndexOutOfBoundsException.class, () -> x.turn(wrong, 0, true));
            Check.refused("no rule", IndexOutOfBoundsException.class, () -> x.turn(0, wrong, true));
        }
        for (int i = 0; i < 60; i++) {
            x.turn(0, i % 2, false);
        }
        Check.refused("full", IllegalStateException.class, () -> x.turn(0, 0, true));
        Check.refused("full, to be off", IllegalStateException.class, () -> x.turn(0, 1, false));
        Check.refused("free comes first", UnsupportedOperationException.class, () -> x.turn(0, 1, true));
        Check.refused("no rule comes first", IndexOutOfBoundsException.class, () -> x.turn(0, 2, true));
        Check.due("the refused turn did not put it on", 2, x.addCondition(0, 0, 0, 1, false));
    }

    private static void isOn() {
        Versefold x = new Versefold();
        x.addRule(1, 0, 1, 0, 0, 1);
        x.addRule(2, 0, 1, 0, 0, 1);
        x.turn(0, 1, true);
        x.tell(0, 0, 0, 0);
        x.turn(0, 1, false);
        x.turn(0, 0, true);
        boolean[] first = {false, false, false, false, true};
        boolean[] second = {false, true, true, false, false};
        for (int knowing = 0; knowing <= 4; knowing++) {
            Check.due("rule 0 at " + knowing, first[knowing], x.isOn(0, 0, knowing));
            Check.due("rule 1 at " + knowing, second[knowing], x.isOn(0, 1, knowing));
        }
        x.fork(0, 2);
        Check.due("in the fork", true, x.isOn(1, 1, 2));
        for (int wrong : new int[] {-1, 5, Integer.MIN_VALUE, Integer.MAX_VALUE}) {
            Check.refused("no branch", IndexOutOfBoundsException.class, () -> x.isOn(wrong, 0, 0));
            Check.refused("no rule", IndexOutOfBoundsException.class, () -> x.isOn(0, wrong, 0));
            Check.refused("no knowing", IndexOutOfBoundsException.class, () -> x.isOn(0, 0, wrong));
        }
        Check.refused("no such rule", IndexOutOfBoundsException.class, () -> x.isOn(0, 2, 0));
        Check.refused("no such knowing in the fork", IndexOutOfBoundsException.class, () -> x.isOn(1, 0, 3));
    }

    private static void layer() {
        Versefold x = new Versefold();
        for (int i = 0; i < 5; i++) {
            x.addRule(i + 1, 0, 1, 0, 0, 1);
            x.addCondition(i, i, 0, 1, true);
        }
        x.turn(0, 1, true);
        x.turn(0, 3, true);
        x.turn(0, 4, true);
        x.turn(0, 2, true);
        int[] four = {0, 0, 1, 2, 3, 4};
        for (int relation = 0; relation < 6; relation++) {
            Check.due("layer of " + relation, four[relation], x.layer(0, relation));
        }
        x.turn(0, 0, true);
        for (int relation = 0; relation < 6; relation++) {
            Check.due("layer of " + relation + " with all on", relation, x.layer(0, relation));
        }
        x.addRule(1, 0, 1, 2, 0, 1);
        x.turn(0, 3, false);
        Check.due("a gap", 0, x.layer(0, 4));
        Check.due("above the gap", 1, x.layer(0, 5));
        x.turn(0, 0, false);
        Check.refused("1 from 2 that is over 1", UnsupportedOperationException.class, () -> x.turn(0, 5, true));
        x.turn(0, 1, false);
        Check.due("1 from 2 alone", 10, x.turn(0, 5, true) + 1);
        Check.due("takes its layer", 0, x.layer(0, 1));
        x.addRule(2, 0, 1, 0, 0, 1);
        x.addCondition(6, 4, 0, 1, true);
        x.turn(0, 6, true);
        Check.due("a straight condition lifts it", 1, x.layer(0, 1));
    }

    private static void layersOfBranches() {
        Versefold x = new Versefold();
        x.addRule(2, 0, 1, 0, 0, 1);
        x.addCondition(0, 1, 0, 1, true);
        x.turn(0, 0, true);
        x.fork(0, 0);
        Check.due("in the branch 0", 1, x.layer(0, 2));
        Check.due("in the fork", 0, x.layer(1, 2));
        for (int wrong : new int[] {-1, 2, Integer.MIN_VALUE, Integer.MAX_VALUE}) {
            Check.refused("no branch", IndexOutOfBoundsException.class, () -> x.layer(wrong, 6));
        }
        for (int wrong : new int[] {-1, 6, Integer.MIN_VALUE, Integer.MAX_VALUE}) {
            Check.refused("no relation", IllegalArgumentException.class, () -> x.layer(0, wrong));
        }
    }
}
