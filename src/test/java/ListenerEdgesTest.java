/** What the document says at the edges of listeners: Terms, promises 27 to 29. */
final class ListenerEdgesTest {
    private ListenerEdgesTest() {
    }

    static void run() {
        arguments();
        fiveListeners();
        whichExceptionOfListen();
        anyThings();
        cornersOfThings();
        hourOfAListener();
        whatHeldAlready();
        eachChangeOnce();
        noChange();
        risingNumbers();
        allFactsAtOnce();
        branchOfAListener();
        toldOfAMerge();
        toldOfForgetting();
        refusedCallsTellNothing();
        waitingAndNext();
        asManyChangesAsThereCanBe();
        asManyFactsAsThereCanBe();
    }

    private static void arguments() {
        Story.dues("27: the branch, the relation, the things or -1, and the hour", """
            listen {-1,1,4,MIN,MAX} 0 0 0 0 -> throws.IndexOutOfBoundsException
            listen 0 {-1,6,MIN,MAX} 0 0 0 -> throws.IllegalArgumentException
            listen 0 0 {-2,8,MIN,MAX} 0 0 -> throws.IllegalArgumentException
            listen 0 0 0 {-2,8,MIN,MAX} 0 -> throws.IllegalArgumentException
            listen 0 0 0 0 {-1,24,MIN,MAX} -> throws.IllegalArgumentException
            waiting 0 -> throws.IndexOutOfBoundsException
            listen 0 0 0 0 0 -> 0
            listen 0 5 7 7 23 -> 1
            listen 0 0 -1 -1 0 -> 2
            listen 0 5 -1 7 23 -> 3
            listen 0 5 7 -1 23 -> 4
            waiting {0..4} -> 0
            """);
    }

    private static void fiveListeners() {
        Story.dues("Terms: at most 5 listeners, numbered from 0; the same call made twice makes two", """
            5 * listen 0 0 0 5 0 -> 0..4
            2 * listen 0 0 0 5 0 -> throws.IllegalStateException
            tell 0 5 0 0 -> 1
            waiting {0..4} -> 1
            next {0..4} -> 6
            waiting {0..4} -> 0
            waiting {-1,5,MIN,MAX} -> throws.IndexOutOfBoundsException
            next {-1,5,MIN,MAX} -> throws.IndexOutOfBoundsException
            """);
    }

    private static void whichExceptionOfListen() {
        Story.dues("27: which exception goes first", """
            4 * listen 0 0 -1 -1 0 -> 0..3
            listen {-1,1,MIN,MAX} 6 8 8 24 -> throws.IndexOutOfBoundsException
            listen 1 0 0 0 0 -> throws.IndexOutOfBoundsException
            listen 0 0 0 0 0 -> 4
            listen 0 0 0 0 0 -> throws.IllegalStateException
            listen {-1,1,MIN,MAX} 0 0 0 0 -> throws.IndexOutOfBoundsException
            listen 0 {-1,6} 0 0 0 -> throws.IllegalArgumentException
            listen 0 0 {-2,8} 0 0 -> throws.IllegalArgumentException
            listen 0 0 0 {-2,8} 0 -> throws.IllegalArgumentException
            listen 0 0 0 0 {-1,24} -> throws.IllegalArgumentException
            listen 1 6 -2 8 24 -> throws.IndexOutOfBoundsException
            """);
    }

    private static void anyThings() {
        Story.dues("Terms: a first and a second thing, or any", """
            listen 0 1 -1 -1 0 -> 0
            listen 0 1 3 -1 0 -> 1
            listen 0 1 -1 4 0 -> 2
            listen 0 1 3 4 0 -> 3
            listen 0 2 3 4 0 -> 4
            tell 0 {92,93,100,99,64,127} 0 0 -> 1..6
            waiting 0 -> 6
            waiting 1 -> 2
            waiting 2 -> 2
            waiting 3 -> 1
            waiting 4 -> 0
            next 1 -> 93
            next 1 -> 94
            next 2 -> 93
            next 2 -> 101
            next 3 -> 93
            next {1,2,3,4} -> throws.NoSuchElementException
            """);
    }

    private static void cornersOfThings() {
        Story.dues("27: the things 0 and 7", """
            listen 0 0 0 -1 0 -> 0
            listen 0 0 7 -1 0 -> 1
            listen 0 0 -1 0 0 -> 2
            listen 0 0 -1 7 0 -> 3
            listen 0 0 3 3 0 -> 4
            tell 0 {0,7,8,15,48,55,56,63} 0 0 -> 1..8
            waiting 0 -> 2
            waiting 1 -> 2
            waiting 2 -> 4
            waiting 3 -> 4
            waiting 4 -> 0
            next 0 -> 1
            next 0 -> 8
            next 1 -> 57
            next 1 -> 64
            next 2 -> 1
            next 2 -> 9
            next 2 -> 49
            next 2 -> 57
            next 3 -> 8
            next 3 -> 16
            next 3 -> 56
            next 3 -> 64
            """);
    }

    private static void hourOfAListener() {
        Story.dues("Terms: which holds in this hour", """
            listen 0 0 -1 -1 0 -> 0
            listen 0 0 -1 -1 23 -> 1
            tell 0 5 0 22 -> 1
            tell 0 6 1 23 -> 2
            tell 0 7 1 22 -> 3
            waiting {0,1} -> 1
            next 0 -> 6
            next 1 -> 7
            untell 0 5 1 23 -> 4
            untell 0 6 0 22 -> 5
            waiting {0,1} -> 0
            untell 0 5 0 0 -> 6
            untell 0 6 23 23 -> 7
            next 0 -> -6
            next 1 -> -7
            """);
    }

    private static void whatHeldAlready() {
        Story.dues("Terms: of each change behind a call, and not of what held when it was added", """
            tell 0 {5,6} 0 0 -> 1..2
            listen 0 0 -1 -1 0 -> 0
            waiting 0 -> 0
            next 0 -> throws.NoSuchElementException
            tell 0 5 0 0 -> 3
            waiting 0 -> 0
            untell 0 6 0 0 -> 4
            waiting 0 -> 1
            listen 0 0 -1 -1 0 -> 1
            waiting 1 -> 0
            next 0 -> -7
            """);
    }

    private static void eachChangeOnce() {
        Story.dues("Terms: each change once", """
            listen 0 0 -1 -1 0 -> 0
            2 * tell 0 5 0 0 -> 1..2
            waiting 0 -> 1
            next 0 -> 6
            next 0 -> throws.NoSuchElementException
            tell 0 5 0 0 -> 3
            waiting 0 -> 0
            2 * untell 0 5 0 0 -> 4..5
            waiting 0 -> 1
            tell 0 5 0 0 -> 6
            waiting 0 -> 2
            next 0 -> -6
            next 0 -> 6
            2 * next 0 -> throws.NoSuchElementException
            """);
    }

    private static void noChange() {
        Story.dues("Terms: what is told and derived goes on to hold while one of both does", """
            addRule 1 0 1 0 0 1 -> 0
            turn 0 0 true -> 1
            listen 0 1 -1 -1 0 -> 0
            tell 0 5 0 0 -> 2
            next 0 -> 70
            tell 0 69 0 0 -> 3
            untell 0 5 0 0 -> 4
            turn 0 0 false -> 5
            waiting 0 -> 0
            untell 0 69 0 0 -> 6
            next 0 -> -70
            addRule 1 0 1 0 0 1 -> 1
            addCondition 1 0 0 1 false -> 2
            setUnique 1 true -> false
            turn 0 1 true -> 7
            fork 0 3 -> 1
            waiting 0 -> 0
            """);
    }

    private static void risingNumbers() {
        Story.dues("Terms: by rising numbers of both together", """
            addRule 1 0 1 0 1 0 -> 0
            addRule 1 0 1 2 0 1 -> 1
            addCondition 1 3 0 0 true -> 2
            addRule 3 0 0 4 0 0 -> 2
            addRule 1 0 1 5 0 1 -> 3
            addCondition 3 4 1 1 false -> 2
            tell 0 {128,155,130,188} 0 0 -> 1..4
            tell 0 {321,376,339,383} 0 0 -> 5..8
            turn 0 {1,2,3} true -> 9..11
            tell 0 256 0 0 -> 12
            listen 0 1 -1 -1 0 -> 0
            untell 0 256 0 0 -> 13
            waiting 0 -> 3
            next 0 -> 65
            next 0 -> 67
            next 0 -> -121
            tell 0 {265,256} 0 0 -> 14..15
            next 0 -> 66
            next 0 -> -65
            next 0 -> -67
            next 0 -> 121
            next 0 -> throws.NoSuchElementException
            """);
    }

    private static void allFactsAtOnce() {
        StringBuilder next = new StringBuilder();
        for (int fact = 320; fact < 384; fact++) {
            next.append("next 0 -> ").append(fact + 1).append('\n');
        }
        for (int fact = 320; fact < 384; fact++) {
            next.append("next 0 -> ").append(-1 - fact).append('\n');
        }
        Story.dues("Terms: each of the 64 facts, behind one call", """
            addRule 5 0 1 4 0 0 -> 0
            addCondition 0 4 1 1 false -> 2
            tell 0 {256,265,274,283,292,301,310,319} 9 9 -> 1..8
            listen 0 5 -1 -1 9 -> 0
            turn 0 0 true -> 9
            waiting 0 -> 64
            turn 0 0 false -> 10
            waiting 0 -> 128
            """ + next + "next 0 -> throws.NoSuchElementException");
    }

    private static void branchOfAListener() {
        Story.dues("27: it listens to a branch", """
            fork 0 0 -> 1
            listen 0 0 -1 -1 0 -> 0
            listen 1 0 -1 -1 0 -> 1
            listen 2 0 -1 -1 0 -> throws.IndexOutOfBoundsException
            tell 1 5 0 0 -> 1
            waiting 0 -> 0
            waiting 1 -> 1
            tell 0 6 0 0 -> 1
            waiting {0,1} -> 1
            next 0 -> 7
            next 1 -> 6
            fork 1 1 -> 2
            fork 2 0 -> 3
            listen 3 0 -1 -1 0 -> 2
            tell {0,1,2} 7 0 0 -> 2
            tell 3 7 0 0 -> 1
            waiting {0,1,2} -> 1
            next {0,1,2} -> 8
            """);
    }

    private static void toldOfAMerge() {
        Story.dues("Terms: behind each call by which the branch gets tellings, also by a merge", """
            fork 0 0 -> 1
            listen 0 0 -1 -1 0 -> 0
            listen 1 0 -1 -1 0 -> 1
            tell 1 {9,8} 0 0 -> 1..2
            tell 1 7 0 0 -> 3
            untell 1 9 0 0 -> 4
            waiting 0 -> 0
            waiting 1 -> 4
            merge 1 -> 4
            waiting 0 -> 2
            waiting 1 -> 4
            next 0 -> 8
            next 0 -> 9
            next 1 -> 10
            next 1 -> 9
            next 1 -> 8
            next 1 -> -10
            merge 1 -> 0
            waiting {0,1} -> 0
            tell 0 10 0 0 -> 5
            untell 1 10 0 0 -> 5
            merge 1 -> 0
            waiting 0 -> 1
            """);
    }

    private static void toldOfForgetting() {
        Story.dues("Terms: or a thing is forgotten, in each branch", """
            tell 0 {5,13,9} 0 0 -> 1..3
            fork 0 3 -> 1
            tell 1 {6,21} 0 0 -> 4..5
            listen 0 0 -1 -1 0 -> 0
            listen 1 0 -1 -1 0 -> 1
            listen 1 0 1 1 0 -> 2
            forget {3,4,7} -> 0
            waiting {0,1,2} -> 0
            forget 5 -> 5
            waiting 0 -> 2
            waiting 1 -> 3
            waiting 2 -> 0
            next 0 -> -6
            next 0 -> -14
            next 1 -> -6
            next 1 -> -14
            next 1 -> -22
            forget 5 -> 0
            waiting {0,1,2} -> 0
            untell 0 9 0 0 -> 4
            next 0 -> -10
            forget 1 -> 3
            next {1,2} -> -10
            waiting {0,1,2} -> 0
            """);
        Story.dues("Terms: a fact may come by forgetting what stood against it", """
            addRule 1 0 1 0 0 1 -> 0
            addCondition 0 2 0 2 true -> 2
            addCondition 0 0 0 2 false -> 3
            tell 0 {9,139} 0 0 -> 1..2
            addRule 1 0 1 0 0 1 -> 1
            addCondition 1 2 2 2 true -> 2
            addCondition 1 0 0 2 false -> 3
            turn 0 1 true -> 3
            tell 0 137 0 0 -> 4
            listen 0 1 -1 -1 0 -> 0
            waiting 0 -> 0
            untell 0 137 0 0 -> 5
            next 0 -> 74
            forget 1 -> 4
            next 0 -> -74
            """);
    }

    private static void refusedCallsTellNothing() {
        Story.dues("Terms: a method that throws an exception changes nothing, so nobody is told", """
            fork 0 0 -> 1
            addRule 1 0 2 0 0 1 -> 0
            setUnique 0 true -> false
            listen 0 0 -1 -1 0 -> 0
            tell 0 5 0 0 -> 1
            next 0 -> 6
            tell 0 6 0 0 -> throws.UnsupportedOperationException
            tell 0 384 0 0 -> throws.IllegalArgumentException
            tell 2 7 0 0 -> throws.IndexOutOfBoundsException
            untell 0 5 0 24 -> throws.IllegalArgumentException
            turn 0 0 true -> throws.UnsupportedOperationException
            forget 8 -> throws.IllegalArgumentException
            merge 0 -> throws.IllegalArgumentException
            waiting 0 -> 0
            59 * tell 0 5 0 0 -> 2..60
            untell 0 5 0 0 -> throws.IllegalStateException
            waiting 0 -> 0
            """);
    }

    private static void waitingAndNext() {
        Story.dues("28, 29: the listener, and the change that has waited longest", """
            waiting {-1,0,4,5,MIN,MAX} -> throws.IndexOutOfBoundsException
            next {-1,0,4,5,MIN,MAX} -> throws.IndexOutOfBoundsException
            listen 0 0 -1 -1 0 -> 0
            waiting {-1,1,4,5,MIN,MAX} -> throws.IndexOutOfBoundsException
            next {-1,1,4,5,MIN,MAX} -> throws.IndexOutOfBoundsException
            waiting 0 -> 0
            2 * next 0 -> throws.NoSuchElementException
            tell 0 {9,5,7} 0 0 -> 1..3
            3 * waiting 0 -> 3
            next 0 -> 10
            waiting 0 -> 2
            tell 0 1 0 0 -> 4
            waiting 0 -> 3
            next 0 -> 6
            next 0 -> 8
            waiting 0 -> 1
            next 0 -> 2
            waiting 0 -> 0
            next 0 -> throws.NoSuchElementException
            tell 0 2 0 0 -> 5
            next 0 -> 3
            next 0 -> throws.NoSuchElementException
            """);
    }

    /** Each of 60 tellings is a change, and each can be forgotten, which is another one. */
    private static void asManyChangesAsThereCanBe() {
        StringBuilder text = new StringBuilder("5 * listen 0 0 -1 -1 0 -> 0..4\n");
        for (int i = 1; i <= 60; i++) {
            text.append("tell 0 0 0 0 -> ").append(i).append("\nforget 0 -> 1\n");
        }
        text.append("waiting {0..4} -> 120\n");
        for (int i = 0; i < 60; i++) {
            text.append("next 4 -> 1\nnext 4 -> -1\n");
        }
        text.append("waiting {0..3} -> 120\nwaiting 4 -> 0\nnext 4 -> throws.NoSuchElementException\n");
        Story.dues("28, 29: as many changes as there can be", text.toString());
    }

    /** The trigger is the fact of thing 0 alone, so that forgetting it leaves the pairs of the other seven things. */
    private static void asManyFactsAsThereCanBe() {
        StringBuilder text = new StringBuilder("""
            addRule 1 0 1 2 0 0 -> 0
            addCondition 0 2 1 1 false -> 2
            addCondition 0 0 2 2 false -> 3
            turn 0 0 true -> 1
            tell 0 {137,146,155,164,173,182,191} 0 0 -> 2..8
            listen 0 1 -1 -1 0 -> 0
            """);
        for (int i = 9; i <= 60; i++) {
            text.append("tell 0 0 0 0 -> ").append(i).append("\nforget 0 -> 1\n");
        }
        text.append("waiting 0 -> 5096\n");
        for (int i = 0; i < 98; i++) {
            int fact = 73 + i % 49 / 7 * 8 + i % 7;
            text.append("next 0 -> ").append(i < 49 ? 1 + fact : -1 - fact).append('\n');
        }
        text.append("next 0 -> 74\nwaiting 0 -> 4997\n");
        Story.dues("28, 29: as many facts as there can be, again and again", text.toString());
    }
}
