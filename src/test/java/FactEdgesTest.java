/** What the document says at the edges of facts, hours and tellings: Terms, promises 1 to 4. */
final class FactEdgesTest {
    private FactEdgesTest() {
    }

    static void run() {
        newObject();
        numbersOfFacts();
        hoursOfTheWorld();
        knowings();
        lastTelling();
        sixtyTellings();
        tell();
        tellTwice();
        untell();
        uniqueInAnHour();
        uniqueWithTheSameFirstThing();
        uniqueByWhatIsTold();
        whichExceptionOfTell();
        whichExceptionOfUntell();
        setUnique();
        uniqueForLaterTellings();
    }

    private static void newObject() {
        Story.dues("1: the branch 0 without tellings", """
            knowing 0 -> 0
            knowing {-1,1,2,3,4,MIN,MAX} -> throws.IndexOutOfBoundsException
            seal 0 0 -> 1
            seal 0 {-1,1,60,MIN,MAX} -> throws.IndexOutOfBoundsException
            isForgotten 0 {-1,0,1,MIN,MAX} -> throws.IndexOutOfBoundsException
            holds 0 0 {0,23} {0,383} -> false
            holdsAnew 0 0 {0,23} {0,383} -> false
            count 0 0 {0,23} {0..5} -> 0
            since 0 {0,23} {0,383} -> 0
            layer 0 {0..5} -> 0
            spanFrom 0 0 {0,23} {0,383} -> throws.NoSuchElementException
            spanTo 0 0 {0,23} {0,383} -> throws.NoSuchElementException
            rank 0 0 {0,23} {0,383} -> throws.NoSuchElementException
            reason 0 0 {0,23} {0,383} -> throws.NoSuchElementException
            reasonFact 0 0 {0,23} {0,383} {-1,0,MIN,MAX} -> throws.NoSuchElementException
            proof 0 0 {0,23} {0,383} -> throws.NoSuchElementException
            forget {0..7} -> 0
            hours -> 0
            conflicts -> 0
            derivedShare 0 {0,23} -> throws.ArithmeticException
            meanRank 0 {0,23} -> throws.ArithmeticException
            isSound -> true
            setUnique {0..5} false -> false
            """);
        Story.dues("1: no rules, forks or listeners", """
            isOn 0 {-1,0,9,MIN,MAX} 0 -> throws.IndexOutOfBoundsException
            addCondition {-1,0,9,MIN,MAX} 0 0 0 false -> throws.IndexOutOfBoundsException
            turn 0 {-1,0,9,MIN,MAX} {true,false} -> throws.IndexOutOfBoundsException
            merge {-1,1,MIN,MAX} -> throws.IndexOutOfBoundsException
            merge 0 -> throws.IllegalArgumentException
            waiting {-1,0,4,MIN,MAX} -> throws.IndexOutOfBoundsException
            next {-1,0,4,MIN,MAX} -> throws.IndexOutOfBoundsException
            fork 0 0 -> 1
            addRule 0 0 0 0 0 0 -> 0
            listen 0 0 0 0 0 -> 0
            """);
    }

    private static void numbersOfFacts() {
        Story.dues("Terms: 64 times the relation, plus 8 times the first thing, plus the second one", """
            addRule 5 0 1 0 1 0 -> 0
            turn 0 0 true -> 1
            tell 0 7 0 0 -> 2
            holds 0 2 0 376 -> true
            holds 0 2 0 327 -> false
            tell 0 {0,63,56} 0 0 -> 3..5
            holds 0 5 0 {320,327,376,383} -> true
            holds 0 5 0 {321,328,375,382} -> false
            count 0 5 0 {0,5} -> 4
            count 0 5 0 {1..4} -> 0
            """);
        Story.dues("Terms: a relation from 0 to 5, the facts on both sides of its ends", """
            tell 0 {0,63,64,127,128,191,192,255,256,319,320,383} 0 0 -> 1..12
            count 0 12 0 {0..5} -> 2
            forget 7 -> 6
            count 0 12 0 {0..5} -> 1
            holds 0 12 0 {0,64,128,192,256,320} -> true
            holds 0 12 0 {63,127,191,255,319,383} -> false
            """);
    }

    private static void hoursOfTheWorld() {
        Story.dues("Terms: the hours 0 to 23", """
            tell 0 5 0 0 -> 1
            holds 0 1 0 5 -> true
            holds 0 1 {1..23} 5 -> false
            tell 0 6 23 23 -> 2
            holds 0 2 23 6 -> true
            holds 0 2 {0..22} 6 -> false
            tell 0 7 0 23 -> 3
            holds 0 3 {0..23} 7 -> true
            untell 0 7 0 0 -> 4
            untell 0 7 23 23 -> 5
            holds 0 5 {0,23} 7 -> false
            holds 0 5 {1..22} 7 -> true
            holds 0 5 {-1,24,MIN,MAX} 7 -> throws.IllegalArgumentException
            """);
    }

    private static void knowings() {
        Story.dues("Terms: the knowing n is what the first n tellings tell", """
            tell 0 5 0 9 -> 1
            untell 0 5 0 4 -> 2
            tell 0 5 4 4 -> 3
            holds 0 {0,2} 4 5 -> false
            holds 0 {1,3} 4 5 -> true
            holds 0 {0,2,3} 3 5 -> false
            holds 0 1 3 5 -> true
            holds 0 {1,2,3} 5 5 -> true
            holds 0 {-1,4,60,MIN,MAX} 4 5 -> throws.IndexOutOfBoundsException
            """);
    }

    private static void lastTelling() {
        Story.dues("Terms: the last one that is about the fact in this hour, and not forgotten", """
            tell 0 5 3 6 -> 1
            untell 0 5 7 9 -> 2
            untell 0 5 0 2 -> 3
            untell 0 6 3 6 -> 4
            untell 0 69 3 6 -> 5
            holds 0 5 {3,6} 5 -> true
            holds 0 5 {2,7} 5 -> false
            untell 0 5 6 6 -> 6
            holds 0 6 {3,5} 5 -> true
            holds 0 6 6 5 -> false
            """);
        Story.dues("Terms: of tellings with the same two things all are forgotten or none, so those behind count", """
            tell 0 5 0 9 -> 1
            forget 5 -> 1
            holds 0 1 0 5 -> false
            tell 0 5 5 9 -> 2
            holds 0 2 {0,4} 5 -> false
            holds 0 2 {5,9} 5 -> true
            holds 0 1 5 5 -> false
            untell 0 5 9 9 -> 3
            forget 0 -> 2
            holds 0 3 {0,5,9} 5 -> false
            """);
    }

    private static void sixtyTellings() {
        Story.dues("Terms: a row of at most 60 tellings, told", """
            59 * tell 0 0 0 23 -> 1..59
            tell 0 383 0 23 -> 60
            tell 0 1 0 0 -> throws.IllegalStateException
            untell 0 0 0 23 -> throws.IllegalStateException
            knowing 0 -> 60
            holds 0 60 0 383 -> true
            holds 0 59 0 383 -> false
            holds 0 61 0 383 -> throws.IndexOutOfBoundsException
            forget 0 -> 59
            tell 0 1 0 0 -> throws.IllegalStateException
            knowing 0 -> 60
            """);
        Story.dues("Terms: a row of at most 60 tellings, untold", """
            59 * tell 0 0 0 23 -> 1..59
            untell 0 0 5 5 -> 60
            untell 0 0 0 23 -> throws.IllegalStateException
            tell 0 0 0 23 -> throws.IllegalStateException
            holds 0 60 {4,6} 0 -> true
            holds 0 60 5 0 -> false
            """);
        Story.dues("Terms: a row of at most 60 tellings, of rules", """
            addRule 1 0 1 0 0 1 -> 0
            59 * turn 0 0 false -> 1..59
            turn 0 0 true -> 60
            turn 0 0 {true,false} -> throws.IllegalStateException
            tell 0 0 0 0 -> throws.IllegalStateException
            isOn 0 0 60 -> true
            isOn 0 0 59 -> false
            """);
        Story.dues("Terms: each branch has a row of its own", """
            60 * tell 0 9 0 0 -> 1..60
            fork 0 59 -> 1
            fork 0 60 -> 2
            fork 0 0 -> 3
            tell 1 0 0 0 -> 60
            tell 1 0 0 0 -> throws.IllegalStateException
            tell 2 0 0 0 -> throws.IllegalStateException
            60 * untell 3 0 0 0 -> 1..60
            untell 3 0 0 0 -> throws.IllegalStateException
            """);
    }

    private static void tell() {
        Story.dues("2: the fact, 0 to 383", """
            tell 0 {-1,384,MIN,MAX,-384,1000} 0 0 -> throws.IllegalArgumentException
            tell 0 0 0 0 -> 1
            tell 0 383 0 0 -> 2
            """);
        Story.dues("2: the hours, the last from the first one to 23", """
            tell 0 5 {-1,24,MIN,MAX} 23 -> throws.IllegalArgumentException
            tell 0 5 -1 -1 -> throws.IllegalArgumentException
            tell 0 5 24 24 -> throws.IllegalArgumentException
            tell 0 5 0 {-1,24,MIN,MAX} -> throws.IllegalArgumentException
            tell 0 5 9 {8,0,-1,24} -> throws.IllegalArgumentException
            tell 0 5 23 {22,24} -> throws.IllegalArgumentException
            tell 0 5 1 0 -> throws.IllegalArgumentException
            tell 0 5 MIN MAX -> throws.IllegalArgumentException
            tell 0 5 0 0 -> 1
            tell 0 5 9 9 -> 2
            tell 0 5 23 23 -> 3
            tell 0 5 0 23 -> 4
            """);
        Story.dues("2: the branch, one that is there", """
            tell {-1,1,4,MIN,MAX} 5 0 0 -> throws.IndexOutOfBoundsException
            fork 0 0 -> 1
            tell 1 5 0 0 -> 1
            tell 2 5 0 0 -> throws.IndexOutOfBoundsException
            knowing 0 -> 0
            holds 0 0 0 5 -> false
            holds 1 1 0 5 -> true
            """);
    }

    private static void tellTwice() {
        Story.dues("2: the same call made twice is two tellings", """
            2 * tell 0 5 3 6 -> 1..2
            count 0 2 3 0 -> 1
            hours -> 8
            since 0 3 5 -> 1
            2 * untell 0 5 3 6 -> 3..4
            holds 0 4 3 5 -> false
            hours -> 16
            since 0 3 5 -> 3
            """);
    }

    private static void untell() {
        Story.dues("3: the fact, 0 to 383", """
            untell 0 {-1,384,MIN,MAX,-384,1000} 0 0 -> throws.IllegalArgumentException
            untell 0 0 0 0 -> 1
            untell 0 383 0 0 -> 2
            """);
        Story.dues("3: the hours, the last from the first one to 23", """
            tell 0 5 0 23 -> 1
            untell 0 5 {-1,24,MIN,MAX} 23 -> throws.IllegalArgumentException
            untell 0 5 -1 -1 -> throws.IllegalArgumentException
            untell 0 5 24 24 -> throws.IllegalArgumentException
            untell 0 5 0 {-1,24,MIN,MAX} -> throws.IllegalArgumentException
            untell 0 5 9 {8,0,-1,24} -> throws.IllegalArgumentException
            untell 0 5 23 {22,24} -> throws.IllegalArgumentException
            untell 0 5 MIN MAX -> throws.IllegalArgumentException
            count 0 1 {0,9,23} 0 -> 1
            untell 0 5 0 0 -> 2
            untell 0 5 9 9 -> 3
            untell 0 5 23 23 -> 4
            count 0 4 {0,9,23} 0 -> 0
            count 0 4 {1,8,10,22} 0 -> 1
            untell 0 5 0 23 -> 5
            count 0 5 {0..23} 0 -> 0
            """);
        Story.dues("3: nothing needs to be told, nor is it more than untold", """
            2 * untell 0 5 0 23 -> 1..2
            tell 0 5 4 4 -> 3
            holds 0 3 4 5 -> true
            holds 0 3 {3,5} 5 -> false
            untell {-1,1,4,MIN,MAX} 5 0 0 -> throws.IndexOutOfBoundsException
            """);
    }

    private static void uniqueInAnHour() {
        Story.dues("Terms: a span in an hour of which another fact is told", """
            setUnique 2 true -> false
            tell 0 133 8 11 -> 1
            tell 0 134 0 8 -> throws.UnsupportedOperationException
            tell 0 134 8 8 -> throws.UnsupportedOperationException
            tell 0 134 11 11 -> throws.UnsupportedOperationException
            tell 0 134 11 23 -> throws.UnsupportedOperationException
            tell 0 134 9 10 -> throws.UnsupportedOperationException
            tell 0 134 0 23 -> throws.UnsupportedOperationException
            tell 0 134 0 7 -> 2
            tell 0 134 12 23 -> 3
            untell 0 133 9 9 -> 4
            tell 0 134 9 9 -> 5
            tell 0 134 9 10 -> throws.UnsupportedOperationException
            tell 0 133 9 9 -> throws.UnsupportedOperationException
            tell 0 133 10 12 -> throws.UnsupportedOperationException
            tell 0 133 10 11 -> 6
            """);
        Story.dues("Terms: in the hours 0 and 23", """
            setUnique 0 true -> false
            tell 0 0 0 0 -> 1
            tell 0 0 23 23 -> 2
            tell 0 7 0 {0,22,23} -> throws.UnsupportedOperationException
            tell 0 7 {0,1,23} 23 -> throws.UnsupportedOperationException
            tell 0 7 1 22 -> 3
            """);
    }

    private static void uniqueWithTheSameFirstThing() {
        Story.dues("Terms: another fact of the relation with the same first thing", """
            setUnique 5 true -> false
            tell 0 376 5 5 -> 1
            tell 0 {377,383} 5 5 -> throws.UnsupportedOperationException
            tell 0 376 5 5 -> 2
            tell 0 375 5 5 -> 3
            tell 0 {368,374} 5 5 -> throws.UnsupportedOperationException
            tell 0 320 5 5 -> 4
            tell 0 {321,327} 5 5 -> throws.UnsupportedOperationException
            """);
        Story.dues("Terms: the first thing 0 and the last relation's neighbour", """
            setUnique 0 true -> false
            tell 0 0 5 5 -> 1
            tell 0 {1,7} 5 5 -> throws.UnsupportedOperationException
            tell 0 {8,64,65} 5 5 -> 2..4
            tell 0 {9,15} 5 5 -> throws.UnsupportedOperationException
            tell 0 63 5 5 -> 5
            tell 0 {56,62} 5 5 -> throws.UnsupportedOperationException
            tell 0 {66,67} 5 5 -> 6..7
            """);
    }

    private static void uniqueByWhatIsTold() {
        Story.dues("Terms: told by the present knowing, not derived, not forgotten, not in another branch", """
            addRule 1 0 1 0 0 1 -> 0
            turn 0 0 true -> 1
            tell 0 5 0 23 -> 2
            setUnique 1 true -> false
            holds 0 2 0 69 -> true
            tell 0 70 0 5 -> 3
            tell 0 71 0 0 -> throws.UnsupportedOperationException
            fork 0 2 -> 1
            tell 1 71 0 0 -> 3
            tell 1 70 0 0 -> throws.UnsupportedOperationException
            forget 6 -> 1
            tell 0 71 0 0 -> 4
            tell 0 65 0 0 -> throws.UnsupportedOperationException
            forget 7 -> 2
            tell 0 65 0 0 -> 5
            untell 0 65 0 0 -> 6
            tell 0 66 0 0 -> 7
            """);
    }

    private static void whichExceptionOfTell() {
        Story.dues("2: which exception goes first", """
            setUnique 0 true -> false
            tell 0 1 0 23 -> 1
            tell 0 2 0 0 -> throws.UnsupportedOperationException
            tell 1 2 0 0 -> throws.IndexOutOfBoundsException
            tell 1 384 0 0 -> throws.IndexOutOfBoundsException
            tell 1 2 5 4 -> throws.IndexOutOfBoundsException
            tell 0 2 0 24 -> throws.IllegalArgumentException
            tell 0 2 5 4 -> throws.IllegalArgumentException
            tell 0 384 0 0 -> throws.IllegalArgumentException
            59 * untell 0 9 0 0 -> 2..60
            tell 0 2 0 0 -> throws.UnsupportedOperationException
            tell 0 1 0 0 -> throws.IllegalStateException
            tell 0 10 0 0 -> throws.IllegalStateException
            tell 0 384 0 0 -> throws.IllegalArgumentException
            tell 0 2 -1 0 -> throws.IllegalArgumentException
            tell 0 2 0 24 -> throws.IllegalArgumentException
            tell 1 2 0 24 -> throws.IndexOutOfBoundsException
            tell -1 1 0 0 -> throws.IndexOutOfBoundsException
            """);
    }

    private static void whichExceptionOfUntell() {
        Story.dues("3: which exception goes first; a unique relation is none", """
            setUnique 0 true -> false
            tell 0 1 0 23 -> 1
            untell 0 2 0 0 -> 2
            untell 1 384 0 0 -> throws.IndexOutOfBoundsException
            untell 1 2 5 4 -> throws.IndexOutOfBoundsException
            58 * untell 0 9 0 0 -> 3..60
            untell 0 2 0 0 -> throws.IllegalStateException
            untell 0 384 0 0 -> throws.IllegalArgumentException
            untell 0 2 -1 0 -> throws.IllegalArgumentException
            untell 0 2 0 24 -> throws.IllegalArgumentException
            untell 1 2 0 24 -> throws.IndexOutOfBoundsException
            untell -1 1 0 0 -> throws.IndexOutOfBoundsException
            """);
    }

    private static void setUnique() {
        Story.dues("4: the relation, 0 to 5; whether it was", """
            setUnique {-1,6,MIN,MAX} true -> throws.IllegalArgumentException
            setUnique {0..5} false -> false
            setUnique 0 true -> false
            setUnique 5 true -> false
            setUnique {-1,6,MIN,MAX} false -> throws.IllegalArgumentException
            setUnique {1..4} false -> false
            2 * setUnique 0 true -> true
            setUnique 0 false -> true
            2 * setUnique 0 false -> false
            setUnique 5 false -> true
            """);
    }

    private static void uniqueForLaterTellings() {
        Story.dues("4: for later tellings of all branches", """
            tell 0 {1,2} 0 9 -> 1..2
            fork 0 2 -> 1
            setUnique 0 true -> false
            count 0 2 0 0 -> 2
            tell {0,1} {1,2,3} 5 5 -> throws.UnsupportedOperationException
            tell 0 3 10 23 -> 3
            fork 1 0 -> 2
            tell 2 4 0 9 -> 1
            tell 2 3 0 9 -> throws.UnsupportedOperationException
            setUnique 0 false -> true
            tell 1 3 0 9 -> 3
            tell 2 3 0 9 -> 2
            """);
    }
}
