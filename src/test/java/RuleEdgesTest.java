/** What the document says at the edges of rules: Terms, promises 5 to 9. */
final class RuleEdgesTest {
    private RuleEdgesTest() {
    }

    static void run() {
        addRule();
        tenRules();
        whichExceptionOfAddRule();
        addCondition();
        threeConditions();
        neverOn();
        whichExceptionOfAddCondition();
        variables();
        turn();
        turnTwice();
        headVariables();
        contraryVariables();
        layersOfTwo();
        layersOfSix();
        layersAgainstTheOrder();
        layersByTheRulesOn();
        offIsNeverUnsupported();
        whichExceptionOfTurn();
        isOn();
        noLayersAtFirst();
        topLayer();
        leastLayer();
        layerOfABranch();
        waysOfThings();
        asManyStepsAsNeeded();
    }

    private static void addRule() {
        Story.dues("5: the relations 0 to 5, the variables 0 to 2", """
            addRule {-1,6,MIN,MAX} 0 0 0 0 0 -> throws.IllegalArgumentException
            addRule 0 {-1,3,MIN,MAX} 0 0 0 0 -> throws.IllegalArgumentException
            addRule 0 0 {-1,3,MIN,MAX} 0 0 0 -> throws.IllegalArgumentException
            addRule 0 0 0 {-1,6,MIN,MAX} 0 0 -> throws.IllegalArgumentException
            addRule 0 0 0 0 {-1,3,MIN,MAX} 0 -> throws.IllegalArgumentException
            addRule 0 0 0 0 0 {-1,3,MIN,MAX} -> throws.IllegalArgumentException
            addRule 0 0 0 0 0 0 -> 0
            addRule 5 2 2 5 2 2 -> 1
            addRule 0 0 2 5 2 0 -> 2
            addRule 5 2 0 0 0 2 -> 3
            """);
        Story.dues("5: which is on in no branch, and makes no telling", """
            fork 0 0 -> 1
            tell {0,1} 5 0 23 -> 1
            2 * addRule 1 0 1 0 0 1 -> 0..1
            knowing {0,1} -> 1
            isOn {0,1} {0,1} {0,1} -> false
            count {0,1} 1 0 1 -> 0
            fork 1 1 -> 2
            isOn 2 {0,1} 1 -> false
            """);
    }

    private static void tenRules() {
        Story.dues("Terms: at most 10 rules, numbered from 0", """
            10 * addRule 0 0 1 1 0 1 -> 0..9
            2 * addRule 0 0 1 1 0 1 -> throws.IllegalStateException
            addCondition {0,9} 0 0 0 false -> 2
            turn 0 {0,9} true -> 1..2
            turn 0 {-1,10} {true,false} -> throws.IndexOutOfBoundsException
            isOn 0 {-1,10} 0 -> throws.IndexOutOfBoundsException
            addCondition {-1,10} 0 0 0 false -> throws.IndexOutOfBoundsException
            """);
    }

    private static void whichExceptionOfAddRule() {
        Story.dues("5: which exception goes first", """
            10 * addRule 0 0 1 1 0 1 -> 0..9
            addRule {-1,6,MIN,MAX} 0 0 0 0 0 -> throws.IllegalArgumentException
            addRule 0 {-1,3} {0,2} 0 0 0 -> throws.IllegalArgumentException
            addRule 0 0 {-1,3} 0 0 0 -> throws.IllegalArgumentException
            addRule 0 0 0 {-1,6} 0 0 -> throws.IllegalArgumentException
            addRule 0 0 0 0 {-1,3} 0 -> throws.IllegalArgumentException
            addRule 0 0 0 0 0 {-1,3,MIN,MAX} -> throws.IllegalArgumentException
            addRule 5 2 2 5 2 2 -> throws.IllegalStateException
            addRule 0 0 0 0 0 0 -> throws.IllegalStateException
            """);
    }

    private static void addCondition() {
        Story.dues("6: the relation 0 to 5, the variables 0 to 2", """
            addRule 1 0 1 0 0 1 -> 0
            addRule 2 0 1 0 0 1 -> 1
            addCondition 0 {-1,6,MIN,MAX} 0 0 {true,false} -> throws.IllegalArgumentException
            addCondition 0 0 {-1,3,MIN,MAX} 0 {true,false} -> throws.IllegalArgumentException
            addCondition 0 0 0 {-1,3,MIN,MAX} {true,false} -> throws.IllegalArgumentException
            addCondition 0 0 0 0 false -> 2
            addCondition 0 5 2 2 false -> 3
            addCondition 1 0 0 0 true -> 2
            addCondition 1 5 1 0 true -> 3
            turn 0 {0,1} true -> 1..2
            """);
        Story.dues("6: a rule that is there", """
            addCondition {-1,0,9,10,MIN,MAX} 0 0 0 false -> throws.IndexOutOfBoundsException
            addRule 1 0 1 0 0 1 -> 0
            addCondition {-1,1,9,10,MIN,MAX} 0 0 0 false -> throws.IndexOutOfBoundsException
            addCondition 0 0 0 0 false -> 2
            """);
    }

    private static void threeConditions() {
        Story.dues("Terms: 1 to 3 conditions; the same one added twice counts twice", """
            addRule 1 0 1 0 0 1 -> 0
            2 * addCondition 0 0 0 1 false -> 2..3
            2 * addCondition 0 0 0 1 {false,true} -> throws.IllegalStateException
            addRule 2 0 1 0 0 1 -> 1
            2 * addCondition 1 3 1 0 true -> 2..3
            addCondition 1 3 1 0 {true,false} -> throws.IllegalStateException
            turn 0 {0,1} true -> 1..2
            tell 0 5 0 0 -> 3
            holds 0 3 0 {69,133} -> true
            tell 0 232 0 0 -> 4
            holds 0 4 0 69 -> true
            holds 0 4 0 133 -> false
            """);
    }

    private static void neverOn() {
        Story.dues("6: a rule that was never on, in no branch", """
            5 * addRule 1 0 1 0 0 1 -> 0..4
            fork 0 0 -> 1
            turn 0 0 true -> 1
            turn 0 0 false -> 2
            turn 1 1 true -> 1
            turn 1 1 false -> 2
            turn 0 2 false -> 3
            addCondition {0,1} 0 0 1 {false,true} -> throws.IllegalStateException
            addCondition {2,3,4} 2 0 1 false -> 2
            fork 0 0 -> 2
            addCondition 0 0 0 1 false -> throws.IllegalStateException
            turn 2 2 true -> 1
            addCondition 2 2 0 1 false -> throws.IllegalStateException
            addCondition {3,4} 2 0 1 true -> 3
            """);
        Story.dues("6: a turn that was refused did not put it on", """
            addRule 1 0 2 0 0 1 -> 0
            turn 0 0 true -> throws.UnsupportedOperationException
            addCondition 0 0 1 2 false -> 2
            60 * turn 0 0 false -> 1..60
            turn 0 0 true -> throws.IllegalStateException
            addCondition 0 0 1 2 false -> 3
            """);
    }

    private static void whichExceptionOfAddCondition() {
        Story.dues("6: which exception goes first", """
            addRule 1 0 1 0 0 1 -> 0
            2 * addCondition 0 0 0 1 false -> 2..3
            addRule 1 0 1 0 0 1 -> 1
            turn 0 1 true -> 1
            addCondition {0,1} 0 0 1 false -> throws.IllegalStateException
            addCondition {0,1} {-1,6,MIN,MAX} 0 1 false -> throws.IllegalArgumentException
            addCondition {0,1} 0 {-1,3} 1 false -> throws.IllegalArgumentException
            addCondition {0,1} 0 0 {-1,3} false -> throws.IllegalArgumentException
            addCondition {-1,2,MIN,MAX} 6 3 3 false -> throws.IndexOutOfBoundsException
            """);
    }

    private static void variables() {
        Story.dues("Terms: two variables from 0 to 2, alike or not", """
            addRule 1 0 0 0 0 0 -> 0
            addRule 2 2 2 0 2 1 -> 1
            addRule 3 1 2 0 2 1 -> 2
            addRule 4 0 2 0 0 1 -> 3
            addCondition 3 0 1 2 false -> 2
            turn 0 {0..3} true -> 1..4
            tell 0 {9,10,19} 0 0 -> 5..7
            holds 0 7 0 73 -> true
            count 0 7 0 1 -> 1
            holds 0 7 0 {137,146} -> true
            count 0 7 0 2 -> 2
            holds 0 7 0 {201,209,218} -> true
            count 0 7 0 3 -> 3
            holds 0 7 0 {265,266,267} -> true
            count 0 7 0 4 -> 3
            """);
    }

    private static void turn() {
        Story.dues("7: the branch and the rule", """
            turn 0 {-1,0,9,MIN,MAX} {true,false} -> throws.IndexOutOfBoundsException
            addRule 1 0 1 0 0 1 -> 0
            turn {-1,1,4,MIN,MAX} 0 {true,false} -> throws.IndexOutOfBoundsException
            turn 0 {-1,1,10,MIN,MAX} {true,false} -> throws.IndexOutOfBoundsException
            fork 0 0 -> 1
            turn 1 0 true -> 1
            turn 2 0 true -> throws.IndexOutOfBoundsException
            isOn 1 0 1 -> true
            isOn 0 0 0 -> false
            knowing 0 -> 0
            """);
    }

    private static void turnTwice() {
        Story.dues("7: the same call made twice is two tellings", """
            addRule 1 0 1 0 0 1 -> 0
            2 * turn 0 0 false -> 1..2
            2 * turn 0 0 true -> 3..4
            2 * turn 0 0 false -> 5..6
            isOn 0 0 {0,1,2,5,6} -> false
            isOn 0 0 {3,4} -> true
            turn 0 0 true -> 7
            isOn 0 0 7 -> true
            """);
    }

    private static void headVariables() {
        Story.dues("7: each variable of the head is in a straight condition, if it shall be on", """
            addRule 1 0 2 0 0 1 -> 0
            addRule 1 2 1 0 0 1 -> 1
            addRule 1 2 2 0 0 0 -> 2
            addRule 1 0 1 0 1 1 -> 3
            turn 0 {0..3} true -> throws.UnsupportedOperationException
            addCondition {0..3} 2 0 2 true -> 2
            turn 0 {0..3} true -> throws.UnsupportedOperationException
            addCondition {0..2} 0 2 2 false -> 3
            addCondition 3 0 0 0 false -> 3
            turn 0 {0,1} true -> 1..2
            turn 0 2 true -> 3
            turn 0 3 true -> throws.UnsupportedOperationException
            addRule 1 1 1 0 1 1 -> 4
            turn 0 4 true -> 4
            addRule 1 0 1 0 0 2 -> 5
            turn 0 5 true -> throws.UnsupportedOperationException
            addCondition 5 0 2 1 false -> 2
            turn 0 5 true -> 5
            """);
    }

    private static void contraryVariables() {
        Story.dues("7: each variable of a contrary condition is in a straight one, if it shall be on", """
            3 * addRule 1 0 0 0 0 0 -> 0..2
            addCondition 0 2 1 0 true -> 2
            addCondition 1 2 0 1 true -> 2
            addCondition 2 2 2 2 true -> 2
            turn 0 {0..2} true -> throws.UnsupportedOperationException
            addCondition {0,1} 0 1 1 false -> 3
            addCondition 2 0 1 1 false -> 3
            turn 0 {0,1} true -> 1..2
            turn 0 2 true -> throws.UnsupportedOperationException
            addRule 1 0 1 0 0 1 -> 3
            addCondition 3 2 1 0 true -> 2
            turn 0 3 true -> 3
            """);
    }

    private static void layersOfTwo() {
        Story.dues("7: there would be no layers", """
            addRule 1 0 1 0 0 1 -> 0
            addCondition 0 1 1 0 true -> 2
            turn 0 0 true -> throws.UnsupportedOperationException
            addRule 1 0 1 1 1 0 -> 1
            turn 0 1 true -> 1
            addRule 2 0 1 0 0 1 -> 2
            addCondition 2 3 0 1 true -> 2
            addRule 3 0 1 2 0 1 -> 3
            addRule 3 0 1 0 0 1 -> 4
            addCondition 4 2 0 1 true -> 2
            turn 0 3 true -> 2
            turn 0 2 true -> throws.UnsupportedOperationException
            turn 0 3 false -> 3
            turn 0 2 true -> 4
            turn 0 3 true -> throws.UnsupportedOperationException
            turn 0 4 true -> throws.UnsupportedOperationException
            turn 0 2 true -> 5
            layer 0 2 -> 1
            """);
    }

    private static void layersOfSix() {
        Story.dues("7: a round of all six relations", """
            addRule {1..5} 0 1 0 0 1 -> 0..4
            addCondition {0..4} 0 0 1 false -> 2
            addRule 1 0 1 0 0 1 -> 5
            addRule 2 0 1 1 0 1 -> 6
            addRule 3 0 1 2 0 1 -> 7
            addRule 4 0 1 3 0 1 -> 8
            addRule 0 0 1 5 0 1 -> 9
            turn 0 {5..9} true -> 1..5
            layer 0 {0..5} -> 0
            addCondition 4 4 0 1 true -> 3
            turn 0 4 true -> throws.UnsupportedOperationException
            turn 0 7 false -> 6
            turn 0 4 true -> 7
            turn 0 7 true -> throws.UnsupportedOperationException
            layer 0 {3,4} -> 0
            layer 0 {0,1,2,5} -> 1
            """);
    }

    /** Each rule needs the one behind it: of those that look through the rules in order it takes the most rounds. */
    private static void layersAgainstTheOrder() {
        Story.dues("7, 9: in whatever order the rules stand", """
            addRule 4 0 1 3 0 1 -> 0
            addRule 3 0 1 2 0 1 -> 1
            addRule 2 0 1 1 0 1 -> 2
            addRule 1 0 1 0 0 1 -> 3
            addRule 0 0 1 5 0 1 -> 4
            addRule 5 0 1 5 0 1 -> 5
            addCondition 5 4 0 1 true -> 2
            turn 0 {0..4} true -> 1..5
            turn 0 5 true -> throws.UnsupportedOperationException
            layer 0 {0..5} -> 0
            turn 0 0 false -> 6
            turn 0 5 true -> 7
            layer 0 {0,1,2,3,5} -> 1
            layer 0 4 -> 0
            turn 0 0 true -> throws.UnsupportedOperationException
            """);
    }

    private static void layersByTheRulesOn() {
        Story.dues("7: with the rules that are on by the present knowing of this branch", """
            addRule 1 0 1 0 0 1 -> 0
            addCondition 0 2 0 1 true -> 2
            addRule 2 0 1 1 0 1 -> 1
            turn 0 0 true -> 1
            fork 0 0 -> 1
            fork 0 1 -> 2
            turn 1 1 true -> 1
            turn 2 1 true -> throws.UnsupportedOperationException
            turn 0 0 false -> 2
            turn 0 1 true -> 3
            turn 0 0 true -> throws.UnsupportedOperationException
            turn 0 1 false -> 4
            turn 0 0 true -> 5
            isOn 0 0 5 -> true
            isOn 0 1 5 -> false
            """);
    }

    private static void offIsNeverUnsupported() {
        Story.dues("7: if it shall be on, and not if it shall be off", """
            addRule 1 0 2 0 0 1 -> 0
            addRule 1 0 1 0 0 1 -> 1
            addCondition 1 1 0 1 true -> 2
            addRule 1 0 1 0 0 1 -> 2
            addCondition 2 2 2 2 true -> 2
            turn 0 {0..2} false -> 1..3
            turn 0 {0..2} true -> throws.UnsupportedOperationException
            addCondition 0 0 2 2 false -> 2
            addCondition {1,2} 0 2 2 false -> 3
            """);
    }

    private static void whichExceptionOfTurn() {
        Story.dues("7: which exception goes first", """
            addRule 1 0 2 0 0 1 -> 0
            addRule 1 0 1 0 0 1 -> 1
            addCondition 1 1 0 1 true -> 2
            addRule 1 0 1 0 0 1 -> 2
            60 * tell 0 5 0 0 -> 1..60
            turn 0 {0,1} true -> throws.UnsupportedOperationException
            turn 0 2 true -> throws.IllegalStateException
            turn 0 {0..2} false -> throws.IllegalStateException
            turn 0 {-1,3,MIN,MAX} {true,false} -> throws.IndexOutOfBoundsException
            turn {-1,1,MIN,MAX} {0,2} {true,false} -> throws.IndexOutOfBoundsException
            addCondition 2 0 0 1 false -> 2
            """);
    }

    private static void isOn() {
        Story.dues("8: the branch, the rule and the knowing", """
            isOn 0 0 0 -> throws.IndexOutOfBoundsException
            addRule 1 0 1 0 0 1 -> 0
            isOn 0 0 0 -> false
            isOn 0 0 {-1,1,MIN,MAX} -> throws.IndexOutOfBoundsException
            isOn 0 {-1,1,MIN,MAX} 0 -> throws.IndexOutOfBoundsException
            isOn {-1,1,MIN,MAX} 0 0 -> throws.IndexOutOfBoundsException
            turn 0 0 true -> 1
            tell 0 5 0 0 -> 2
            fork 0 1 -> 1
            turn 0 0 false -> 3
            isOn 0 0 {1,2} -> true
            isOn 0 0 {0,3} -> false
            isOn 0 0 4 -> throws.IndexOutOfBoundsException
            isOn 1 0 1 -> true
            isOn 1 0 2 -> throws.IndexOutOfBoundsException
            forget 0 -> 1
            isOn 0 0 {1,2} -> true
            """);
        Story.dues("8: with 60 tellings", """
            10 * addRule 1 0 1 0 0 1 -> 0..9
            58 * tell 0 5 0 0 -> 1..58
            turn 0 0 true -> 59
            turn 0 9 true -> 60
            isOn 0 9 60 -> true
            isOn 0 9 59 -> false
            isOn 0 0 {59,60} -> true
            isOn 0 0 58 -> false
            isOn 0 {0,9} {61,MAX} -> throws.IndexOutOfBoundsException
            """);
    }

    private static void noLayersAtFirst() {
        Story.dues("9: the least number from 0 on", """
            layer 0 {0..5} -> 0
            layer 0 {-1,6,MIN,MAX} -> throws.IllegalArgumentException
            layer {-1,1,4,MIN,MAX} {0,5} -> throws.IndexOutOfBoundsException
            layer {-1,1,4,MIN,MAX} {-1,6} -> throws.IndexOutOfBoundsException
            addRule 1 0 1 0 0 1 -> 0
            addCondition 0 2 0 1 true -> 2
            layer 0 {0..5} -> 0
            turn 0 0 true -> 1
            layer 0 1 -> 1
            layer 0 {0,2,3,4,5} -> 0
            turn 0 0 false -> 2
            layer 0 {0..5} -> 0
            """);
    }

    private static void topLayer() {
        Story.dues("9: as many layers as there are relations", """
            addRule 0 0 1 1 0 1 -> 0
            addRule 1 0 1 2 0 1 -> 1
            addRule 2 0 1 3 0 1 -> 2
            addRule 3 0 1 4 0 1 -> 3
            addRule 4 0 1 5 0 1 -> 4
            addCondition 0 1 1 0 true -> 2
            addCondition 1 2 1 0 true -> 2
            addCondition 2 3 1 0 true -> 2
            addCondition 3 4 1 0 true -> 2
            addCondition 4 5 1 0 true -> 2
            turn 0 {0..4} true -> 1..5
            layer 0 0 -> 5
            layer 0 1 -> 4
            layer 0 2 -> 3
            layer 0 3 -> 2
            layer 0 4 -> 1
            layer 0 5 -> 0
            tell 0 {321,328} 0 0 -> 6..7
            count 0 6 0 {4,3,2,1,0} -> 1
            count 0 7 0 {4,3,2,1,0} -> 0
            addRule 5 0 1 0 0 1 -> 5
            turn 0 5 true -> throws.UnsupportedOperationException
            """);
    }

    private static void leastLayer() {
        Story.dues("9: not less than each straight condition's, greater than each contrary one's, for each rule", """
            addRule 1 0 1 0 0 1 -> 0
            addCondition 0 0 1 0 true -> 2
            addRule 2 0 1 1 0 1 -> 1
            addRule 2 0 1 0 0 1 -> 2
            addCondition 2 1 0 1 true -> 2
            addRule 3 0 1 2 0 1 -> 3
            addCondition 3 1 0 1 false -> 2
            addRule 4 0 1 0 0 1 -> 4
            addCondition 4 5 0 1 true -> 2
            addCondition 4 2 0 1 true -> 3
            turn 0 0 true -> 1
            turn 0 {1,3,4} true -> 2..4
            layer 0 {0,5} -> 0
            layer 0 {1,2,3} -> 1
            layer 0 4 -> 2
            turn 0 2 true -> 5
            layer 0 1 -> 1
            layer 0 {2,3} -> 2
            layer 0 4 -> 3
            """);
    }

    private static void layerOfABranch() {
        Story.dues("9: by the present knowing of the branch", """
            addRule 1 0 1 0 0 1 -> 0
            addCondition 0 2 0 1 true -> 2
            turn 0 0 true -> 1
            fork 0 0 -> 1
            fork 0 1 -> 2
            layer {0,2} 1 -> 1
            layer 1 1 -> 0
            turn 2 0 false -> 2
            layer {1,2} 1 -> 0
            layer 0 1 -> 1
            layer 3 1 -> throws.IndexOutOfBoundsException
            """);
    }

    private static void waysOfThings() {
        Story.dues("Terms: for each way, from none to all 64 pairs", """
            addRule 1 0 1 0 0 0 -> 0
            addCondition 0 0 1 1 false -> 2
            addRule 2 0 1 0 0 0 -> 1
            addCondition 1 0 1 1 false -> 2
            addCondition 1 3 1 0 true -> 3
            turn 0 {0,1} true -> 1..2
            count 0 2 0 {1,2} -> 0
            tell 0 {0,9,18,27,36,45,54,63} 0 0 -> 3..10
            count 0 3 0 {1,2} -> 1
            count 0 9 0 {1,2} -> 49
            count 0 10 0 {1,2} -> 64
            holds 0 10 0 {64,71,120,127,128,135,184,191} -> true
            count 0 10 1 {1,2} -> 0
            tell 0 199 0 0 -> 11
            count 0 11 0 2 -> 63
            holds 0 11 0 184 -> false
            holds 0 11 0 135 -> true
            """);
    }

    /** The relation 0 winds through all pairs of things, one a step; then the relation 5 does. */
    private static void asManyStepsAsNeeded() {
        Story.dues("Terms: in as many steps as are needed", """
            addRule 0 0 2 0 0 1 -> 0
            addCondition 0 1 1 2 false -> 2
            addCondition 0 2 0 0 false -> 3
            addRule 0 0 2 0 0 1 -> 1
            addCondition 1 1 2 1 false -> 2
            addCondition 1 3 0 0 false -> 3
            addRule 0 2 1 0 0 1 -> 2
            addCondition 2 1 0 2 false -> 2
            addCondition 2 4 0 1 false -> 3
            addRule 5 1 1 0 0 1 -> 3
            addCondition 3 2 0 1 false -> 2
            addCondition 3 3 0 0 false -> 3
            addRule 5 0 2 5 0 1 -> 4
            addCondition 4 1 1 2 false -> 2
            addCondition 4 2 0 0 false -> 3
            addRule 5 0 2 5 0 1 -> 5
            addCondition 5 1 2 1 false -> 2
            addCondition 5 3 0 0 false -> 3
            addRule 5 2 1 5 0 1 -> 6
            addCondition 6 1 0 2 false -> 2
            addCondition 6 4 0 1 false -> 3
            turn 0 {6,5,4,3,2,1,0} true -> 1..7
            tell 0 {65,74,83,92,101,110,119} 0 0 -> 8..14
            tell 0 {128,146,164,182,201,219,237,255} 0 0 -> 15..22
            tell 0 {263,264,279,280,295,296,311} 0 0 -> 23..29
            tell 0 184 0 0 -> 30
            tell 0 0 0 0 -> 31
            count 0 30 0 {0,5} -> 0
            count 0 31 0 {0,5} -> 64
            rank 0 31 0 56 -> 63
            rank 0 31 0 320 -> 64
            rank 0 31 0 376 -> 127
            reason 0 31 0 376 -> 5
            reasonFact 0 31 0 376 0 -> 377
            proof 0 31 0 56 -> 86
            proof 0 31 0 376 -> 151
            holdsAnew 0 31 0 376 -> true
            untell 0 119 0 0 -> 32
            count 0 32 0 0 -> 7
            count 0 32 0 5 -> 0
            """);
    }
}
