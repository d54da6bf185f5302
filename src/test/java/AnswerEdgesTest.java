/** What the document says at the edges of answers: promises 10 to 16. */
final class AnswerEdgesTest {
    private AnswerEdgesTest() {
    }

    static void run() {
        knowing();
        holds("11", "holds");
        holds("12", "holdsAnew");
        whichExceptionOfHolds("11", "holds");
        whichExceptionOfHolds("12", "holdsAnew");
        bothWays();
        count();
        whichExceptionOfCount();
        spansOfOneHourAndOfAll();
        spansThatMeet();
        derivedSpans();
        whichExceptionOfSpans("14", "spanFrom");
        whichExceptionOfSpans("15", "spanTo");
        since();
        sinceThePast();
        whichExceptionOfSince();
    }

    private static void knowing() {
        Story.dues("10: the number of tellings", """
            knowing 0 -> 0
            knowing {-1,1,MIN,MAX} -> throws.IndexOutOfBoundsException
            tell 0 5 0 0 -> 1
            tell 0 384 0 0 -> throws.IllegalArgumentException
            knowing 0 -> 1
            addRule 1 0 1 0 0 1 -> 0
            knowing 0 -> 1
            turn 0 0 false -> 2
            untell 0 5 0 0 -> 3
            3 * fork 0 1 -> 1..3
            knowing {1,2,3} -> 1
            knowing {4,-1} -> throws.IndexOutOfBoundsException
            untell 3 5 0 0 -> 2
            merge 3 -> 1
            forget 5 -> 7
            knowing 0 -> 4
            knowing 3 -> 2
            56 * tell 0 6 0 0 -> 5..60
            knowing 0 -> 60
            """);
    }

    private static void holds(String number, String name) {
        Story.dues(number + ": the branch, the knowing, the hour and the fact", """
            tell 0 0 0 0 -> 1
            tell 0 383 23 23 -> 2
            fork 0 1 -> 1
            CALL 0 1 0 0 -> true
            CALL 0 2 0 0 -> true
            CALL 0 2 23 383 -> true
            CALL 1 1 0 0 -> true
            CALL 0 0 0 0 -> false
            CALL 0 1 23 383 -> false
            CALL 0 2 {1,23} 0 -> false
            CALL 0 2 {0,22} 383 -> false
            CALL 0 2 0 {1,382} -> false
            CALL {-1,2,4,MIN,MAX} 0 0 0 -> throws.IndexOutOfBoundsException
            CALL 0 {-1,3,60,61,MIN,MAX} 0 0 -> throws.IndexOutOfBoundsException
            CALL 1 2 0 0 -> throws.IndexOutOfBoundsException
            CALL 0 2 {-1,24,MIN,MAX} 0 -> throws.IllegalArgumentException
            CALL 0 2 0 {-1,384,MIN,MAX} -> throws.IllegalArgumentException
            """.replace("CALL", name));
    }

    private static void whichExceptionOfHolds(String number, String name) {
        Story.dues(number + ": which exception goes first", """
            tell 0 0 0 0 -> 1
            CALL {-1,1,MIN,MAX} {0,1,2} {0,24} {0,384} -> throws.IndexOutOfBoundsException
            CALL 0 {-1,2,MIN,MAX} {0,-1,24} {0,-1,384} -> throws.IndexOutOfBoundsException
            CALL 0 {0,1} {-1,24} {-1,0,384} -> throws.IllegalArgumentException
            """.replace("CALL", name));
    }

    private static void bothWays() {
        Story.dues("12: the same as holds(), found from all tellings, also by past knowings and after forgetting", """
            addRule 1 0 1 0 0 1 -> 0
            addRule 2 0 1 0 0 1 -> 1
            addCondition 1 1 1 0 true -> 2
            tell 0 10 0 23 -> 1
            turn 0 0 true -> 2
            turn 0 1 true -> 3
            tell 0 17 5 23 -> 4
            holds 0 4 4 138 -> true
            holdsAnew 0 4 4 138 -> true
            holds 0 4 5 138 -> false
            holdsAnew 0 4 5 138 -> false
            holds 0 3 5 138 -> true
            holdsAnew 0 3 5 138 -> true
            holds 0 2 5 138 -> false
            holdsAnew 0 2 5 138 -> false
            fork 0 3 -> 1
            forget 1 -> 3
            holds {0,1} 3 5 138 -> false
            holdsAnew {0,1} 3 5 138 -> false
            tell 1 10 5 5 -> 4
            holds 1 4 5 138 -> true
            holdsAnew 1 4 5 138 -> true
            isSound -> true
            """);
    }

    private static void count() {
        Story.dues("13: from none to all the 64 facts of a relation", """
            addRule 0 0 1 5 0 0 -> 0
            addCondition 0 5 1 1 false -> 2
            count 0 0 {0,23} {0,5} -> 0
            tell 0 {320,329,338,347,356,365,374,383} 3 4 -> 1..8
            turn 0 0 true -> 9
            count 0 9 {3,4} 0 -> 64
            count 0 9 {3,4} 5 -> 8
            count 0 9 {2,5} {0,5} -> 0
            count 0 9 3 {1..4} -> 0
            count 0 8 3 0 -> 0
            tell 0 {0,63} 3 3 -> 10..11
            count 0 11 3 0 -> 64
            untell 0 0 3 3 -> 12
            count 0 12 3 0 -> 64
            """);
        Story.dues("13: the branch, the knowing, the hour and the relation", """
            tell 0 0 0 0 -> 1
            tell 0 383 23 23 -> 2
            fork 0 1 -> 1
            count {0,1} 1 0 0 -> 1
            count 0 2 23 5 -> 1
            count 0 {0,1} 23 5 -> 0
            count {-1,2,4,MIN,MAX} 0 0 0 -> throws.IndexOutOfBoundsException
            count 0 {-1,3,MIN,MAX} 0 0 -> throws.IndexOutOfBoundsException
            count 1 2 0 0 -> throws.IndexOutOfBoundsException
            count 0 2 {-1,24,MIN,MAX} 0 -> throws.IllegalArgumentException
            count 0 2 0 {-1,6,MIN,MAX} -> throws.IllegalArgumentException
            """);
    }

    private static void whichExceptionOfCount() {
        Story.dues("13: which exception goes first", """
            tell 0 0 0 0 -> 1
            count {-1,1,MIN,MAX} {0,2} {0,24} {0,6} -> throws.IndexOutOfBoundsException
            count 0 {-1,2,MIN,MAX} {0,-1,24} {0,-1,6} -> throws.IndexOutOfBoundsException
            count 0 {0,1} {-1,24} {-1,0,6} -> throws.IllegalArgumentException
            """);
    }

    private static void spansOfOneHourAndOfAll() {
        Story.dues("14, 15: a span of one hour, at both ends of the day and inside", """
            tell 0 5 0 0 -> 1
            tell 0 5 12 12 -> 2
            tell 0 5 23 23 -> 3
            spanFrom 0 3 0 5 -> 0
            spanTo 0 3 0 5 -> 0
            spanFrom 0 3 12 5 -> 12
            spanTo 0 3 12 5 -> 12
            spanFrom 0 3 23 5 -> 23
            spanTo 0 3 23 5 -> 23
            spanFrom 0 3 {1,11,13,22} 5 -> throws.NoSuchElementException
            spanTo 0 3 {1,11,13,22} 5 -> throws.NoSuchElementException
            """);
        Story.dues("14, 15: a span of all hours", """
            tell 0 5 0 23 -> 1
            spanFrom 0 1 {0..23} 5 -> 0
            spanTo 0 1 {0..23} 5 -> 23
            untell 0 5 0 0 -> 2
            untell 0 5 23 23 -> 3
            spanFrom 0 3 {1,22} 5 -> 1
            spanTo 0 3 {1,22} 5 -> 22
            spanFrom 0 3 {0,23} 5 -> throws.NoSuchElementException
            spanTo 0 3 {0,23} 5 -> throws.NoSuchElementException
            spanFrom 0 2 23 5 -> 1
            spanTo 0 1 0 5 -> 23
            """);
    }

    private static void spansThatMeet() {
        Story.dues("14, 15: spans side by side are one; those with an hour between them are two", """
            tell 0 5 3 6 -> 1
            tell 0 5 7 9 -> 2
            tell 0 5 11 12 -> 3
            tell 0 6 10 10 -> 4
            spanFrom 0 4 {3,6,7,9} 5 -> 3
            spanTo 0 4 {3,6,7,9} 5 -> 9
            spanFrom 0 4 {11,12} 5 -> 11
            spanTo 0 4 {11,12} 5 -> 12
            spanFrom 0 1 6 5 -> 3
            spanTo 0 1 3 5 -> 6
            tell 0 5 10 10 -> 5
            spanFrom 0 5 12 5 -> 3
            spanTo 0 5 3 5 -> 12
            """);
    }

    private static void derivedSpans() {
        Story.dues("14, 15: in all of which it holds, told or derived", """
            addRule 1 0 1 0 0 1 -> 0
            addCondition 0 2 0 1 true -> 2
            turn 0 0 true -> 1
            tell 0 5 0 20 -> 2
            tell 0 69 21 22 -> 3
            tell 0 133 4 4 -> 4
            spanFrom 0 4 {5,20,22} 69 -> 5
            spanTo 0 4 {5,20,22} 69 -> 22
            spanFrom 0 4 {0,3} 69 -> 0
            spanTo 0 4 {0,3} 69 -> 3
            spanFrom 0 4 {4,23} 69 -> throws.NoSuchElementException
            spanTo 0 4 {4,23} 69 -> throws.NoSuchElementException
            spanFrom 0 3 22 69 -> 0
            spanTo 0 2 4 69 -> 20
            """);
    }

    private static void whichExceptionOfSpans(String number, String name) {
        Story.dues(number + ": the arguments, and which exception goes first", """
            tell 0 0 0 0 -> 1
            tell 0 383 23 23 -> 2
            CALL 0 2 0 0 -> 0
            CALL 0 2 23 383 -> 23
            CALL 0 2 1 0 -> throws.NoSuchElementException
            CALL 0 0 0 0 -> throws.NoSuchElementException
            CALL {-1,1,MIN,MAX} {0,3} {0,24} {0,384} -> throws.IndexOutOfBoundsException
            CALL 0 {-1,3,MIN,MAX} {0,-1,24} {0,-1,384} -> throws.IndexOutOfBoundsException
            CALL 0 {0,2} {-1,24,MIN,MAX} {0,1} -> throws.IllegalArgumentException
            CALL 0 {0,2} {0,1} {-1,384,MIN,MAX} -> throws.IllegalArgumentException
            """.replace("CALL", name));
    }

    private static void since() {
        Story.dues("16: the least knowing from which on the answer is the same", """
            since 0 0 0 -> 0
            tell 0 0 0 0 -> 1
            since 0 0 0 -> 1
            since 0 1 0 -> 0
            tell 0 0 0 0 -> 2
            since 0 0 0 -> 1
            untell 0 0 0 0 -> 3
            since 0 0 0 -> 3
            untell 0 0 0 0 -> 4
            since 0 0 0 -> 3
            tell 0 0 0 0 -> 5
            since 0 0 0 -> 5
            55 * tell 0 383 23 23 -> 6..60
            since 0 0 0 -> 5
            since 0 23 383 -> 6
            since 0 {0,22} 383 -> 0
            fork 0 4 -> 1
            since 1 0 0 -> 3
            since 1 23 383 -> 0
            """);
        Story.dues("16: since the last one of 60", """
            59 * tell 0 0 0 0 -> 1..59
            untell 0 0 0 0 -> 60
            since 0 0 0 -> 60
            forget 0 -> 60
            since 0 0 0 -> 0
            """);
    }

    private static void sinceThePast() {
        Story.dues("16: the answer of holds(), for derived facts and for what is forgotten", """
            addRule 1 0 1 0 0 1 -> 0
            tell 0 10 0 23 -> 1
            turn 0 0 true -> 2
            tell 0 19 0 23 -> 3
            since 0 0 74 -> 2
            tell 0 74 0 23 -> 4
            turn 0 0 false -> 5
            since 0 0 74 -> 2
            since 0 0 83 -> 5
            untell 0 74 5 5 -> 6
            since 0 5 74 -> 6
            since 0 4 74 -> 2
            forget 3 -> 1
            since 0 0 83 -> 0
            since 0 4 74 -> 2
            """);
    }

    private static void whichExceptionOfSince() {
        Story.dues("16: the arguments, and which exception goes first", """
            tell 0 0 0 0 -> 1
            since 0 23 {0,383} -> 0
            since 0 0 0 -> 1
            since 0 0 383 -> 0
            since {-1,1,MIN,MAX} {0,24} {0,384} -> throws.IndexOutOfBoundsException
            since 0 {-1,24,MIN,MAX} {0,384} -> throws.IllegalArgumentException
            since 0 {0,23} {-1,384,MIN,MAX} -> throws.IllegalArgumentException
            """);
    }
}
