/** What the document says at the edges of forgetting and seals: Terms, promises 21 to 23. */
final class ForgettingEdgesTest {
    private static final int MODULUS = 65521;

    private ForgettingEdgesTest() {
    }

    static void run() {
        forget();
        firstOrSecondThing();
        onlyFacts();
        soFar();
        allBranches();
        allSixty();
        isForgotten();
        seal();
        sealsStay();
        sealOfEachKind();
        sealOfSixty();
    }

    private static void forget() {
        Story.dues("21: the thing, 0 to 7", """
            tell 0 {0,63,27} 0 0 -> 1..3
            forget {-1,8,MIN,MAX} -> throws.IllegalArgumentException
            count 0 3 0 0 -> 3
            forget 0 -> 1
            count 0 3 0 0 -> 2
            forget 7 -> 1
            forget {0,7} -> 0
            count 0 3 0 0 -> 1
            forget {1,2,4,5,6} -> 0
            holds 0 3 0 27 -> true
            """);
        Story.dues("21: nothing to forget yet", """
            forget {0..7} -> 0
            tell 0 0 0 0 -> 1
            holds 0 1 0 0 -> true
            isForgotten 0 0 -> false
            """);
    }

    private static void firstOrSecondThing() {
        Story.dues("Terms: about a fact with this thing, as the first one, the second one or both, told or untold", """
            tell 0 {5,40,45,4,325,365} 0 0 -> 1..6
            untell 0 {61,47,128} 0 0 -> 7..9
            forget 5 -> 7
            isForgotten 0 {0,1,2,4,5,6,7} -> true
            isForgotten 0 {3,8} -> false
            2 * forget 5 -> 0
            forget 0 -> 2
            isForgotten 0 {0..8} -> true
            """);
    }

    private static void onlyFacts() {
        Story.dues("Terms: tellings that are about a fact, not those about a rule", """
            10 * addRule 1 0 1 0 0 1 -> 0..9
            turn 0 {0,1,5,7,8,9} true -> 1..6
            turn 0 {8,9} false -> 7..8
            forget {0..7} -> 0
            isForgotten 0 {0..7} -> false
            isOn 0 {0,1,5,7} 8 -> true
            tell 0 0 0 0 -> 9
            holds 0 9 0 64 -> true
            forget 0 -> 1
            holds 0 9 0 {0,64} -> false
            isForgotten 0 8 -> true
            isOn 0 {0,1,5,7} 9 -> true
            """);
    }

    private static void soFar() {
        Story.dues("Terms: all tellings so far, and none that are told later", """
            tell 0 5 0 23 -> 1
            forget 5 -> 1
            tell 0 5 0 0 -> 2
            isForgotten 0 0 -> true
            isForgotten 0 1 -> false
            holds 0 2 0 5 -> true
            holds 0 2 1 5 -> false
            holds 0 1 0 5 -> false
            untell 0 5 0 0 -> 3
            forget 5 -> 2
            forget 5 -> 0
            tell 0 5 3 3 -> 4
            holds 0 4 3 5 -> true
            forget 0 -> 1
            isForgotten 0 {0..3} -> true
            """);
    }

    private static void allBranches() {
        Story.dues("21: the tellings of all branches, each branch's for itself", """
            tell 0 {5,12} 0 0 -> 1..2
            fork 0 2 -> 1
            fork 0 1 -> 2
            fork 1 0 -> 3
            tell 2 13 0 0 -> 2
            tell 3 13 0 0 -> 1
            forget 5 -> 5
            forget 5 -> 0
            isForgotten {0,1,2,3} 0 -> true
            isForgotten {0,1} 1 -> false
            isForgotten 2 1 -> true
            forget 4 -> 2
            tell 3 {4,60} 0 0 -> 2..3
            forget 4 -> 2
            forget 4 -> 0
            """);
        Story.dues("Terms: a fork has its tellings as they are, forgotten or not", """
            tell 0 {5,9} 0 0 -> 1..2
            forget 5 -> 1
            fork 0 2 -> 1
            isForgotten 1 0 -> true
            isForgotten 1 1 -> false
            holds 1 2 0 5 -> false
            holds 1 2 0 9 -> true
            forget {0,5} -> 0
            forget 1 -> 2
            """);
    }

    private static void allSixty() {
        Story.dues("21: all 60 tellings of all 4 branches", """
            60 * tell 0 0 0 23 -> 1..60
            3 * fork 0 60 -> 1..3
            forget 1 -> 0
            hours -> 5760
            forget 0 -> 240
            hours -> 0
            forget 0 -> 0
            isForgotten {0..3} {0,59} -> true
            knowing {0..3} -> 60
            tell {0..3} 9 0 0 -> throws.IllegalStateException
            isSound -> true
            """);
    }

    private static void isForgotten() {
        Story.dues("22: the branch and the index, from 0", """
            isForgotten 0 {-1,0,1,59,60,MIN,MAX} -> throws.IndexOutOfBoundsException
            tell 0 5 0 0 -> 1
            isForgotten 0 0 -> false
            isForgotten 0 {-1,1,59,60,MIN,MAX} -> throws.IndexOutOfBoundsException
            isForgotten {-1,1,4,MIN,MAX} 0 -> throws.IndexOutOfBoundsException
            fork 0 0 -> 1
            isForgotten 1 0 -> throws.IndexOutOfBoundsException
            59 * tell 0 6 0 0 -> 2..60
            forget 6 -> 59
            isForgotten 0 {1,59} -> true
            isForgotten 0 0 -> false
            isForgotten 0 {60,61} -> throws.IndexOutOfBoundsException
            """);
    }

    private static void seal() {
        Story.dues("23: the branch and the knowing", """
            seal 0 0 -> 1
            seal 0 {-1,1,60,MIN,MAX} -> throws.IndexOutOfBoundsException
            seal {-1,1,4,MIN,MAX} {0,1} -> throws.IndexOutOfBoundsException
            tell 0 1 0 23 -> 1
            seal 0 0 -> 1
            seal 0 1 -> 12989
            seal 0 2 -> throws.IndexOutOfBoundsException
            fork 0 0 -> 1
            fork 0 1 -> 2
            seal 1 0 -> 1
            seal 1 1 -> throws.IndexOutOfBoundsException
            seal 2 1 -> 12989
            """);
    }

    private static void sealsStay() {
        Story.dues("Terms: digests and seals stay as they are when a telling is forgotten", """
            tell 0 {1,9} 0 23 -> 1..2
            fork 0 1 -> 1
            seal {0,1} 1 -> 12989
            forget 0 -> 2
            forget 1 -> 1
            seal {0,1} 1 -> 12989
            seal {0,1} 0 -> 1
            fork 0 1 -> 2
            seal 2 1 -> 12989
            tell 2 1 0 23 -> 2
            tell 1 1 0 23 -> 2
            seal 2 2 -> %d
            seal 1 2 -> %d
            isSound -> true
            """.formatted(next(12989, fact(7, 1, 0, 23)), next(12989, fact(7, 1, 0, 23))));
    }

    private static int next(int seal, int digest) {
        return (int) ((31L * seal + digest) % MODULUS);
    }

    private static int fact(int sign, int fact, int from, int to) {
        return next(next(next(sign, fact), from), to);
    }

    private static void sealOfEachKind() {
        int one = next(1, fact(7, 383, 23, 23));
        int two = next(one, fact(11, 383, 23, 23));
        int three = next(two, next(13, 9));
        int four = next(three, next(17, 9));
        int five = next(four, next(17, 0));
        int six = next(five, next(13, 0));
        int seven = next(six, fact(7, 0, 0, 0));
        int eight = next(seven, fact(11, 0, 0, 0));
        Story.dues("Terms: 7, 11, 13 and 17, the fact and both hours, or the rule", """
            10 * addRule 1 0 1 0 0 1 -> 0..9
            tell 0 383 23 23 -> 1
            untell 0 383 23 23 -> 2
            turn 0 9 true -> 3
            turn 0 9 false -> 4
            turn 0 0 false -> 5
            turn 0 0 true -> 6
            tell 0 0 0 0 -> 7
            untell 0 0 0 0 -> 8
            seal 0 0 -> 1
            seal 0 1 -> %d
            seal 0 2 -> %d
            seal 0 3 -> %d
            seal 0 4 -> %d
            seal 0 5 -> %d
            seal 0 6 -> %d
            seal 0 7 -> %d
            seal 0 8 -> %d
            """.formatted(one, two, three, four, five, six, seven, eight));
    }

    /** The facts of this row are picked so that its seals come near to 0 and to 65520 in turn. */
    private static void sealOfSixty() {
        StringBuilder told = new StringBuilder();
        StringBuilder seals = new StringBuilder();
        int seal = 1;
        for (int i = 0; i < 60; i++) {
            int sign = i % 2 == 0 ? 7 : 11;
            int best = bestFact(seal, sign, i % 24, i % 4 < 2);
            seal = next(seal, fact(sign, best, 0, i % 24));
            told.append(i % 2 == 0 ? "tell" : "untell").append(" 0 ").append(best).append(" 0 ").append(i % 24)
                    .append(" -> ").append(i + 1).append('\n');
            seals.append("seal 0 ").append(i + 1).append(" -> ").append(seal).append('\n');
        }
        Story.dues("Terms: modulo 65521, up to the knowing 60", told.toString() + seals + """
            seal 0 {-1,61,MAX} -> throws.IndexOutOfBoundsException
            isSound -> true
            """);
    }

    private static int bestFact(int seal, int sign, int to, boolean isLow) {
        int best = 0;
        for (int fact = 0; fact < 384; fact++) {
            int found = next(seal, fact(sign, fact, 0, to));
            int so = next(seal, fact(sign, best, 0, to));
            best = (isLow ? found < so : found > so) ? fact : best;
        }
        return best;
    }
}
