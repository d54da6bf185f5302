/** What the document says at the edges of ranks, reasons and proofs: Terms, promises 17 to 20. */
final class ReasonEdgesTest {
    private static final String[] CALLS = {"17", "rank", "18", "reason", "20", "proof"};

    private ReasonEdgesTest() {
    }

    static void run() {
        for (int i = 0; i < CALLS.length; i += 2) {
            arguments(CALLS[i], CALLS[i + 1], "");
        }
        arguments("19", "reasonFact", " 0");
        told();
        firstAndLastFact();
        leastRank();
        lowestRule();
        lowestWay();
        variablesOfTheRule();
        premises();
        contraryOnesAreNone();
        eachFactOnce();
        proofOfThreeConditions();
        allPairs();
        allWays();
        byTheKnowing();
    }

    private static void arguments(String number, String name, String index) {
        Story.dues(number + ": the arguments, and which exception goes first", """
            addRule 5 0 1 0 0 1 -> 0
            turn 0 0 true -> 1
            tell 0 63 22 23 -> 2
            CALL 0 2 {0,21} 383 INDEX -> throws.NoSuchElementException
            CALL 0 {0,1} {22,23} 383 INDEX -> throws.NoSuchElementException
            CALL 0 2 23 {0,62,64,319,382} INDEX -> throws.NoSuchElementException
            CALL {-1,1,MIN,MAX} {0,3} {0,24} {0,384} INDEX -> throws.IndexOutOfBoundsException
            CALL 0 {-1,3,MIN,MAX} {23,-1,24} {383,-1,384} INDEX -> throws.IndexOutOfBoundsException
            CALL 0 {0,2} {-1,24,MIN,MAX} {383,0} INDEX -> throws.IllegalArgumentException
            CALL 0 {0,2} {23,0} {-1,384,MIN,MAX} INDEX -> throws.IllegalArgumentException
            """.replace("CALL", name).replace(" INDEX", index));
    }

    private static void told() {
        Story.dues("17, 18, 19, 20: a fact that is told, even if it follows as well", """
            addRule 1 0 1 0 0 1 -> 0
            turn 0 0 true -> 1
            tell 0 5 0 0 -> 2
            rank 0 2 0 5 -> 0
            reason 0 2 0 5 -> -1
            proof 0 2 0 5 -> 1
            reasonFact 0 2 0 5 {-1,0,1,2,MIN,MAX} -> throws.NoSuchElementException
            rank 0 2 0 69 -> 1
            tell 0 69 0 0 -> 3
            rank 0 3 0 69 -> 0
            reason 0 3 0 69 -> -1
            proof 0 3 0 69 -> 1
            reasonFact 0 3 0 69 {-1,0,1,2,MIN,MAX} -> throws.NoSuchElementException
            untell 0 69 0 0 -> 4
            rank 0 4 0 69 -> 1
            reason 0 4 0 69 -> 0
            proof 0 4 0 69 -> 2
            reasonFact 0 4 0 69 0 -> 5
            """);
    }

    private static void firstAndLastFact() {
        Story.dues("17, 18, 19, 20: the first fact and the last one, derived", """
            addRule 0 1 0 5 0 1 -> 0
            addRule 5 0 1 1 0 1 -> 1
            turn 0 {0,1} true -> 1..2
            tell 0 {64,127} 0 0 -> 3..4
            rank 0 4 0 {320,383} -> 1
            rank 0 4 0 {0,63} -> 2
            reason 0 4 0 {320,383} -> 1
            reason 0 4 0 {0,63} -> 0
            reasonFact 0 4 0 383 0 -> 127
            reasonFact 0 4 0 320 0 -> 64
            reasonFact 0 4 0 63 0 -> 383
            reasonFact 0 4 0 0 0 -> 320
            proof 0 4 0 {0,63} -> 3
            proof 0 4 0 {320,383} -> 2
            meanRank 0 0 -> 1.0
            """);
    }

    private static void leastRank() {
        Story.dues("Terms: 1 more than the greatest rank of the straight conditions, for the least such way", """
            addRule 1 0 1 0 0 1 -> 0
            addRule 2 0 1 1 0 1 -> 1
            addRule 3 0 2 2 0 1 -> 2
            addCondition 2 0 1 2 false -> 2
            addRule 3 0 1 1 0 1 -> 3
            turn 0 {0..3} true -> 1..4
            tell 0 {1,10} 0 0 -> 5..6
            rank 0 6 0 194 -> 3
            reason 0 6 0 194 -> 2
            rank 0 6 0 193 -> 2
            reason 0 6 0 193 -> 3
            tell 0 129 0 0 -> 7
            rank 0 7 0 194 -> 1
            tell 0 66 0 0 -> 8
            rank 0 8 0 194 -> 1
            reason 0 8 0 194 -> 2
            untell 0 129 0 0 -> 9
            rank 0 9 0 194 -> 1
            reason 0 9 0 194 -> 3
            reasonFact 0 9 0 194 0 -> 66
            """);
    }

    private static void lowestRule() {
        Story.dues("Terms: of several rules that give it its rank the one with the lowest number", """
            10 * addRule 1 0 1 0 0 1 -> 0..9
            tell 0 5 0 0 -> 1
            turn 0 9 true -> 2
            reason 0 2 0 69 -> 9
            turn 0 3 true -> 3
            turn 0 7 true -> 4
            reason 0 4 0 69 -> 3
            turn 0 0 true -> 5
            reason 0 5 0 69 -> 0
            turn 0 {0,3} false -> 6..7
            reason 0 7 0 69 -> 7
            reason 0 5 0 69 -> 0
            """);
    }

    private static void lowestWay() {
        Story.dues("Terms: the way with the lowest thing for the variable 0, then for 1, then for 2", """
            addRule 1 2 2 0 0 2 -> 0
            addCondition 0 0 1 2 false -> 2
            addRule 2 0 0 0 0 1 -> 1
            addCondition 1 0 0 2 false -> 2
            addRule 3 1 1 0 0 1 -> 2
            addCondition 2 0 2 1 false -> 2
            turn 0 {0..2} true -> 1..3
            tell 0 {60,59,57,28,44,20,12} 0 0 -> 4..10
            reasonFact 0 10 0 100 0 -> 12
            reasonFact 0 10 0 100 1 -> 12
            reasonFact 0 10 0 191 0 -> 57
            reasonFact 0 10 0 191 1 -> 57
            reasonFact 0 10 0 228 0 -> 12
            reasonFact 0 10 0 228 1 -> 12
            reasonFact 0 9 0 100 0 -> 20
            untell 0 12 0 0 -> 11
            reasonFact 0 11 0 228 {0,1} -> 20
            """);
        Story.dues("Terms: the variable 0 goes ahead of 1, and 1 of 2, in whatever order the conditions stand", """
            addRule 1 2 2 0 1 2 -> 0
            addCondition 0 3 0 2 false -> 2
            addCondition 0 4 0 1 false -> 3
            addRule 2 0 0 0 2 0 -> 1
            addCondition 1 3 1 0 false -> 2
            addCondition 1 4 1 2 false -> 3
            addRule 5 1 1 0 2 1 -> 2
            addCondition 2 3 0 1 false -> 2
            addCondition 2 4 0 2 false -> 3
            turn 0 {0..2} true -> 1..3
            tell 0 {15,47,223,239,297} 0 0 -> 4..8
            reasonFact 0 8 0 {127,191,383} 0 -> 15
            reasonFact 0 8 0 {127,191,383} 1 -> 239
            reasonFact 0 8 0 {127,191,383} 2 -> 297
            tell 0 285 0 0 -> 9
            reasonFact 0 9 0 {127,191,383} 0 -> 47
            reasonFact 0 9 0 {127,191,383} 1 -> 223
            reasonFact 0 9 0 {127,191,383} 2 -> 285
            """);
    }

    private static void variablesOfTheRule() {
        Story.dues("Terms: of those variables that are in the rule", """
            addRule 1 2 2 0 2 2 -> 0
            addRule 2 1 1 0 1 1 -> 1
            addRule 3 0 0 0 0 0 -> 2
            addRule 4 2 1 0 1 2 -> 3
            turn 0 {0..3} true -> 1..4
            tell 0 {63,0} 0 0 -> 5..6
            reasonFact 0 6 0 {127,191,255,319} 0 -> 63
            reasonFact 0 6 0 {64,128,192,256} 0 -> 0
            proof 0 6 0 {64,127,128,191,192,255,256,319} -> 2
            """);
    }

    private static void premises() {
        Story.dues("19: the index among the straight conditions, from 0", """
            addRule 1 0 1 0 0 1 -> 0
            addRule 2 0 2 0 0 1 -> 1
            addCondition 1 0 1 2 false -> 2
            addRule 3 0 2 0 0 1 -> 2
            addCondition 2 0 1 2 false -> 2
            addCondition 2 4 2 0 false -> 3
            turn 0 {0..2} true -> 1..3
            tell 0 {10,19,281} 0 0 -> 4..6
            reasonFact 0 6 0 74 0 -> 10
            reasonFact 0 6 0 74 {-1,1,2,3,MIN,MAX} -> throws.NoSuchElementException
            reasonFact 0 6 0 139 0 -> 10
            reasonFact 0 6 0 139 1 -> 19
            reasonFact 0 6 0 139 {-1,2,3,MIN,MAX} -> throws.NoSuchElementException
            reasonFact 0 6 0 203 0 -> 10
            reasonFact 0 6 0 203 1 -> 19
            reasonFact 0 6 0 203 2 -> 281
            reasonFact 0 6 0 203 {-1,3,4,MIN,MAX} -> throws.NoSuchElementException
            reasonFact 0 6 0 204 {0,MAX} -> throws.NoSuchElementException
            reasonFact 0 6 24 203 {0,-1} -> throws.IllegalArgumentException
            reasonFact 0 7 0 203 {0,-1} -> throws.IndexOutOfBoundsException
            """);
    }

    private static void contraryOnesAreNone() {
        Story.dues("19, 20: by the order of the straight conditions, without the contrary ones", """
            addRule 1 0 2 0 0 1 -> 0
            addCondition 0 3 0 1 true -> 2
            addCondition 0 0 1 2 false -> 3
            addRule 2 0 1 0 0 1 -> 1
            addCondition 1 3 0 1 true -> 2
            addCondition 1 4 0 1 true -> 3
            addRule 3 0 1 5 0 1 -> 2
            turn 0 {0..2} true -> 1..3
            tell 0 {10,19,320} 0 0 -> 4..6
            reasonFact 0 6 0 75 0 -> 10
            reasonFact 0 6 0 75 1 -> 19
            reasonFact 0 6 0 75 2 -> throws.NoSuchElementException
            reasonFact 0 6 0 138 0 -> 10
            reasonFact 0 6 0 138 {1,2} -> throws.NoSuchElementException
            rank 0 6 0 75 -> 1
            proof 0 6 0 75 -> 3
            proof 0 6 0 138 -> 2
            """);
    }

    private static void eachFactOnce() {
        Story.dues("20: each fact once", """
            addRule 1 0 1 0 0 1 -> 0
            2 * addCondition 0 0 0 1 false -> 2..3
            addRule 2 0 1 1 0 1 -> 1
            addCondition 1 1 1 0 false -> 2
            addCondition 1 0 0 1 false -> 3
            addRule 5 1 0 2 0 1 -> 2
            addCondition 2 2 1 0 false -> 2
            turn 0 {0..2} true -> 1..3
            tell 0 {10,17,9} 0 0 -> 4..6
            proof 0 6 0 74 -> 2
            proof 0 6 0 138 -> 5
            proof 0 6 0 137 -> 3
            proof 0 6 0 337 -> 7
            proof 0 6 0 329 -> 4
            """);
    }

    private static void proofOfThreeConditions() {
        Story.dues("20: the proofs of all three conditions, of facts in all relations", """
            addRule 3 0 1 0 0 1 -> 0
            addRule 4 0 1 1 0 1 -> 1
            addRule 5 0 1 2 0 1 -> 2
            addRule 5 0 2 3 0 1 -> 3
            addCondition 3 4 1 2 false -> 2
            addCondition 3 5 2 0 false -> 3
            turn 0 {0..3} true -> 1..4
            tell 0 {63,0} 0 0 -> 5..6
            tell 0 {127,64} 0 0 -> 7..8
            tell 0 {191,128} 0 0 -> 9..10
            proof 0 10 0 {383,320} -> 2
            tell 0 7 0 0 -> 11
            tell 0 {124,160} 0 0 -> 12..13
            rank 0 13 0 324 -> 2
            proof 0 13 0 324 -> 7
            reasonFact 0 13 0 324 0 -> 199
            reasonFact 0 13 0 324 1 -> 316
            reasonFact 0 13 0 324 2 -> 352
            """);
    }

    /** The relation 0 goes round all things; the relation 1 is where one comes by it, and its rank how far that is. */
    private static void allPairs() {
        StringBuilder text = new StringBuilder("""
            addRule 1 0 1 0 0 1 -> 0
            addRule 1 0 2 1 0 1 -> 1
            addCondition 1 0 1 2 false -> 2
            turn 0 {0,1} true -> 1..2
            tell 0 {1,10,19,28,37,46,55,56} 0 0 -> 3..10
            """);
        for (int pair = 0; pair < 64; pair++) {
            int first = pair / 8;
            int way = 1 + (pair % 8 - first + 7) % 8;
            int before = (pair + 7) % 8;
            text.append("rank 0 10 0 ").append(64 + pair).append(" -> ").append(way).append('\n');
            text.append("proof 0 10 0 ").append(64 + pair).append(" -> ").append(2 * way).append('\n');
            text.append("reason 0 10 0 ").append(64 + pair).append(" -> ").append(way == 1 ? 0 : 1).append('\n');
            text.append("reasonFact 0 10 0 ").append(64 + pair).append(" 0 -> ")
                    .append(way == 1 ? pair : 64 + 8 * first + before).append('\n');
        }
        Story.dues("17, 18, 19, 20: of all 64 facts of a relation", text + "meanRank 0 0 -> 4.0\n");
    }

    /** Each rule puts all things for two of the variables: the relation 5 is marks of the things. */
    private static void allWays() {
        StringBuilder text = new StringBuilder("""
            addRule 0 0 1 5 0 0 -> 0
            addCondition 0 5 1 1 false -> 2
            addRule 1 0 2 5 0 0 -> 1
            addCondition 1 5 2 2 false -> 2
            addRule 2 1 2 5 1 1 -> 2
            addCondition 2 5 2 2 false -> 2
            addRule 3 2 1 5 2 2 -> 3
            addCondition 3 5 1 1 false -> 2
            addRule 4 1 0 5 1 1 -> 4
            addCondition 4 5 0 0 false -> 2
            turn 0 {0..4} true -> 1..5
            tell 0 {320,329,338,347,356,365,374,383} 0 0 -> 6..13
            count 0 13 0 {0..4} -> 64
            rank 0 13 0 {0..319} -> 1
            """);
        for (int pair = 0; pair < 64; pair++) {
            String call = "reasonFact 0 13 0 " + (128 + pair);
            text.append(call).append(" 0 -> ").append(320 + pair / 8 * 9).append('\n');
            text.append(call).append(" 1 -> ").append(320 + pair % 8 * 9).append('\n');
        }
        Story.dues("Terms: for each way to put things for the variables", text.toString());
    }

    private static void byTheKnowing() {
        Story.dues("17, 18, 19, 20: by a knowing, in an hour, of a branch", """
            addRule 1 0 1 0 0 1 -> 0
            addRule 1 0 1 2 0 1 -> 1
            turn 0 {0,1} true -> 1..2
            tell 0 133 0 9 -> 3
            tell 0 5 5 9 -> 4
            tell 0 69 9 9 -> 5
            fork 0 3 -> 1
            reason 0 5 0 69 -> 1
            reason 0 5 5 69 -> 0
            reason 0 5 9 69 -> -1
            reason 0 4 9 69 -> 0
            reason 0 3 9 69 -> 1
            reason 1 3 9 69 -> 1
            rank 0 {3,4} 9 69 -> 1
            rank 0 5 9 69 -> 0
            proof 0 4 9 69 -> 2
            proof 0 5 9 69 -> 1
            reasonFact 0 4 9 69 0 -> 5
            reasonFact 0 3 9 69 0 -> 133
            reasonFact 0 5 9 69 0 -> throws.NoSuchElementException
            rank 0 2 9 69 -> throws.NoSuchElementException
            """);
    }
}
