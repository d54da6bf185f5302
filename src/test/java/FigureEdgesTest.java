/** What the document says at the edges of figures: promises 30 to 33, and of an object's last call. */
final class FigureEdgesTest {
    private FigureEdgesTest() {
    }

    static void run() {
        hours();
        hoursOfFullBranches();
        derivedShare();
        meanRank();
        figuresOfAllFacts();
        figuresInAnHour();
        whichException("31", "derivedShare");
        whichException("32", "meanRank");
        isSound();
        lastCall();
    }

    private static void hours() {
        Story.dues("30: of tellings of facts, of both kinds, that are not forgotten, of each branch", """
            hours -> 0
            addRule 1 0 1 0 0 1 -> 0
            turn 0 0 true -> 1
            hours -> 0
            tell 0 5 0 0 -> 2
            hours -> 1
            tell 0 5 23 23 -> 3
            hours -> 2
            untell 0 5 0 23 -> 4
            hours -> 26
            tell 0 384 0 0 -> throws.IllegalArgumentException
            hours -> 26
            fork 0 3 -> 1
            hours -> 28
            fork 1 0 -> 2
            hours -> 28
            tell 2 14 22 23 -> 1
            hours -> 30
            merge 2 -> 1
            hours -> 32
            forget 5 -> 5
            hours -> 4
            forget 6 -> 2
            hours -> 0
            """);
    }

    private static void hoursOfFullBranches() {
        Story.dues("30: of 4 branches with 60 tellings of 24 hours", """
            60 * untell 0 5 0 23 -> 1..60
            hours -> 1440
            3 * fork 0 60 -> 1..3
            hours -> 5760
            tell 3 5 0 23 -> throws.IllegalStateException
            hours -> 5760
            """);
    }

    private static void derivedShare() {
        Story.dues("31: none, some and nearly all of those that hold are derived", """
            derivedShare 0 0 -> throws.ArithmeticException
            addRule 5 0 1 0 0 1 -> 0
            addRule 0 1 0 0 0 1 -> 1
            untell 0 5 0 23 -> 1
            derivedShare 0 0 -> throws.ArithmeticException
            tell 0 7 0 22 -> 2
            derivedShare 0 {0,22} -> 0.0
            derivedShare 0 23 -> throws.ArithmeticException
            turn 0 0 true -> 3
            derivedShare 0 0 -> 0.5
            turn 0 1 true -> 4
            derivedShare 0 0 -> 0.75
            tell 0 327 0 0 -> 5
            derivedShare 0 0 -> 0.5
            derivedShare 0 1 -> 0.75
            tell 0 320 1 1 -> 6
            derivedShare 0 1 -> 0.6
            tell 0 319 1 1 -> 7
            derivedShare 0 1 -> 0.5
            tell 0 64 1 1 -> 8
            derivedShare 0 1 -> 0.42857143
            forget 7 -> 3
            derivedShare 0 0 -> throws.ArithmeticException
            derivedShare 0 1 -> 0.0
            """);
    }

    private static void meanRank() {
        Story.dues("32: the sum of the ranks divided by the number of facts", """
            meanRank 0 0 -> throws.ArithmeticException
            addRule 5 0 1 0 0 1 -> 0
            addRule 0 1 0 5 0 1 -> 1
            untell 0 0 0 23 -> 1
            meanRank 0 0 -> throws.ArithmeticException
            tell 0 0 0 22 -> 2
            meanRank 0 {0,22} -> 0.0
            meanRank 0 23 -> throws.ArithmeticException
            turn 0 {0,1} true -> 3..4
            meanRank 0 0 -> 0.5
            tell 0 7 0 0 -> 5
            meanRank 0 0 -> 1.1666666666666667
            tell 0 63 0 0 -> 6
            meanRank 0 0 -> 1.0
            tell 0 383 0 0 -> 7
            meanRank 0 0 -> 0.875
            forget 7 -> 3
            meanRank 0 0 -> 0.5
            forget 0 -> 2
            meanRank 0 0 -> throws.ArithmeticException
            """);
    }

    private static void figuresOfAllFacts() {
        Story.dues("31, 32: of all 384 facts", """
            addRule 1 0 1 0 0 0 -> 0
            addCondition 0 0 1 1 false -> 2
            addRule {2..5} 0 1 1 0 1 -> 1..4
            addRule 0 0 1 5 0 1 -> 5
            tell 0 {0,9,18,27,36,45,54,63} 0 0 -> 1..8
            turn 0 {0..5} true -> 9..14
            count 0 14 0 {0..5} -> 64
            derivedShare 0 0 -> 0.9791667
            meanRank 0 0 -> 1.9375
            """);
    }

    private static void figuresInAnHour() {
        Story.dues("31, 32: by the present knowing of the branch, in the hour", """
            addRule 1 0 1 0 0 1 -> 0
            tell 0 5 0 11 -> 1
            turn 0 0 true -> 2
            fork 0 1 -> 1
            derivedShare 0 {0,11} -> 0.5
            meanRank 0 {0,11} -> 0.5
            derivedShare 1 {0,11} -> 0.0
            meanRank 1 {0,11} -> 0.0
            derivedShare {0,1} {12,23} -> throws.ArithmeticException
            meanRank {0,1} {12,23} -> throws.ArithmeticException
            untell 0 5 0 0 -> 3
            derivedShare 0 0 -> throws.ArithmeticException
            meanRank 0 0 -> throws.ArithmeticException
            derivedShare 0 1 -> 0.5
            """);
    }

    private static void whichException(String number, String name) {
        Story.dues(number + ": the branch and the hour, and which exception goes first", """
            CALL 0 {0,23} -> throws.ArithmeticException
            CALL 0 {-1,24,MIN,MAX} -> throws.IllegalArgumentException
            CALL {-1,1,4,MIN,MAX} {-1,0,23,24} -> throws.IndexOutOfBoundsException
            tell 0 5 0 0 -> 1
            tell 0 5 23 23 -> 2
            CALL 0 {0,23} -> 0.0
            CALL 0 {1,22} -> throws.ArithmeticException
            CALL 0 {-1,24,MIN,MAX} -> throws.IllegalArgumentException
            CALL {-1,1,4,MIN,MAX} {-1,0,23,24} -> throws.IndexOutOfBoundsException
            fork 0 1 -> 1
            CALL 1 0 -> 0.0
            CALL 1 23 -> throws.ArithmeticException
            CALL 2 0 -> throws.IndexOutOfBoundsException
            """.replace("CALL", name));
    }

    private static void isSound() {
        Story.dues("33: of a new object, of a full one, and behind all kinds of calls", """
            isSound -> true
            10 * addRule 1 0 1 0 0 1 -> 0..9
            addCondition {1..9} 5 0 1 false -> 2
            addCondition {1..9} 5 1 0 false -> 3
            isSound -> true
            turn 0 {0..9} true -> 1..10
            isSound -> true
            tell 0 {0..44} 0 23 -> 11..55
            untell 0 0 6 12 -> 56
            isSound -> true
            fork 0 56 -> 1
            fork 1 0 -> 2
            fork 2 0 -> 3
            tell 2 {320,383,5} 0 23 -> 1..3
            merge 2 -> 3
            conflicts -> 0
            isSound -> true
            forget 0 -> 32
            isSound -> true
            tell 0 384 0 0 -> throws.IllegalArgumentException
            2 * isSound -> true
            """);
    }

    private static void lastCall() {
        StringBuilder text = new StringBuilder("5 * listen 0 0 -1 -1 0 -> 0..4\n");
        for (int i = 1; i <= 60; i++) {
            text.append("tell 0 0 0 0 -> ").append(i).append("\nforget 0 -> 1\n");
        }
        text.append("waiting {0..4} -> 120\n");
        for (int i = 1; i <= 75; i++) {
            text.append("next {0..4} -> ").append(i % 2 == 0 ? -1 : 1).append('\n');
        }
        text.append("""
            waiting 4 -> 45
            next 0 -> -1
            isForgotten 0 59 -> true
            hours -> 0
            holds 0 60 0 0 -> false
            setUnique 5 true -> false
            isSound -> true
            """);
        Check.due("this run has 512 calls", 512, Calls.lines(text.toString()).size());
        Story.dues("An object is used for at most 512 calls, and the last one is answered too", text.toString());
    }
}
