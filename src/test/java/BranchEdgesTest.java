/** What the document says at the edges of forks and merges: Terms, promises 24 to 26. */
final class BranchEdgesTest {
    private BranchEdgesTest() {
    }

    static void run() {
        fork();
        fourBranches();
        whichExceptionOfFork();
        whichBranchIsMerged();
        nothingToMerge();
        mergedTwice();
        contraryInOneHour();
        contraryBehindTheFork();
        contraryRules();
        ownTellingsAreNotContrary();
        otherForksAreContrary();
        forgottenOnes();
        againstUnique();
        againstLayers();
        noRoom();
        passedOverOnce();
        manyForks();
        conflicts();
    }

    private static void fork() {
        Story.dues("24: the branch and the knowing", """
            fork {-1,1,4,MIN,MAX} 0 -> throws.IndexOutOfBoundsException
            fork 0 {-1,1,60,MIN,MAX} -> throws.IndexOutOfBoundsException
            tell 0 {5,6} 0 0 -> 1..2
            fork 0 {-1,3,MIN,MAX} -> throws.IndexOutOfBoundsException
            fork 0 2 -> 1
            fork 0 0 -> 2
            fork 2 1 -> throws.IndexOutOfBoundsException
            fork 1 1 -> 3
            knowing 0 -> 2
            knowing 1 -> 2
            knowing 2 -> 0
            knowing 3 -> 1
            holds 3 1 0 5 -> true
            holds 1 2 0 {5,6} -> true
            tell 1 7 0 0 -> 3
            holds 0 2 0 7 -> false
            tell 0 8 0 0 -> 3
            holds 1 3 0 8 -> false
            """);
        Story.dues("24: at the knowing 60", """
            60 * tell 0 5 0 0 -> 1..60
            fork 0 61 -> throws.IndexOutOfBoundsException
            fork 0 60 -> 1
            fork 1 60 -> 2
            knowing {1,2} -> 60
            merge {1,2} -> 0
            conflicts -> 0
            """);
    }

    private static void fourBranches() {
        Story.dues("Terms: at most 4 branches", """
            3 * fork 0 0 -> 1..3
            fork {0..3} 0 -> throws.IllegalStateException
            knowing {0..3} -> 0
            knowing 4 -> throws.IndexOutOfBoundsException
            tell {0..3} 5 0 0 -> 1
            fork {0..3} {0,1} -> throws.IllegalStateException
            """);
        Story.dues("24: the same call made twice makes two branches", """
            tell 0 5 0 0 -> 1
            2 * fork 0 1 -> 1..2
            tell 1 6 0 0 -> 2
            knowing 2 -> 1
            holds 2 1 0 6 -> false
            """);
    }

    private static void whichExceptionOfFork() {
        Story.dues("24: which exception goes first", """
            3 * fork 0 0 -> 1..3
            fork 0 0 -> throws.IllegalStateException
            fork {-1,4,MIN,MAX} 0 -> throws.IndexOutOfBoundsException
            fork {0,3} {-1,1,61,MIN,MAX} -> throws.IndexOutOfBoundsException
            """);
    }

    private static void whichBranchIsMerged() {
        Story.dues("25: a branch that is there, and not the branch 0", """
            merge 0 -> throws.IllegalArgumentException
            merge {-1,1,4,MIN,MAX} -> throws.IndexOutOfBoundsException
            fork 0 0 -> 1
            merge 0 -> throws.IllegalArgumentException
            merge {-1,2,4,MIN,MAX} -> throws.IndexOutOfBoundsException
            merge 1 -> 0
            2 * fork 1 0 -> 2..3
            merge {1,2,3} -> 0
            merge {-1,4,MIN,MAX} -> throws.IndexOutOfBoundsException
            """);
    }

    private static void nothingToMerge() {
        Story.dues("25: nothing behind the fork", """
            tell 0 {5,6} 0 0 -> 1..2
            fork 0 2 -> 1
            fork 0 1 -> 2
            merge {1,2} -> 0
            conflicts -> 0
            knowing 0 -> 2
            untell 0 5 0 0 -> 3
            merge {1,2} -> 0
            conflicts -> 0
            knowing 0 -> 3
            """);
    }

    private static void mergedTwice() {
        Story.dues("25: those that were not taken by an earlier merge", """
            fork 0 0 -> 1
            tell 1 5 0 0 -> 1
            merge 1 -> 1
            2 * merge 1 -> 0
            knowing 0 -> 1
            tell 1 6 0 0 -> 2
            untell 1 5 0 0 -> 3
            merge 1 -> 2
            conflicts -> 0
            merge 1 -> 0
            knowing 0 -> 3
            knowing 1 -> 3
            seal 1 3 -> SEAL
            seal 0 3 -> SEAL
            """.replace("SEAL", Integer.toString(seal("tell 0 5 0 0", "tell 0 6 0 0", "untell 0 5 0 0"))));
    }

    private static int seal(String... calls) {
        return Integer.parseInt(Calls.answer(Story.after(java.util.List.of(calls)), "seal 0 " + calls.length));
    }

    private static void contraryInOneHour() {
        Story.dues("Terms: about the same fact in one of its hours, and tells the contrary", """
            fork 0 0 -> 1
            untell 0 5 6 9 -> 1
            tell 1 5 0 6 -> 1
            tell 1 5 9 23 -> 2
            tell 1 5 7 8 -> 3
            tell 1 5 0 23 -> 4
            tell 1 5 6 9 -> 5
            tell 1 5 0 5 -> 6
            tell 1 5 10 23 -> 7
            untell 1 5 0 23 -> 8
            tell 1 4 6 9 -> 9
            tell 1 69 6 9 -> 10
            tell 1 13 6 9 -> 11
            merge 1 -> 6
            conflicts -> 5
            knowing 0 -> 7
            holds 0 3 {0,5,10,23} 5 -> true
            holds 0 3 {6,7,8,9} 5 -> false
            """);
        Story.dues("Terms: in the hours 0 and 23", """
            fork 0 0 -> 1
            tell 0 5 0 0 -> 1
            tell 0 5 23 23 -> 2
            untell 1 5 0 0 -> 1
            untell 1 5 23 23 -> 2
            untell 1 5 0 23 -> 3
            untell 1 5 1 22 -> 4
            tell 1 5 0 23 -> 5
            merge 1 -> 2
            conflicts -> 3
            """);
    }

    private static void contraryBehindTheFork() {
        Story.dues("Terms: a telling behind the knowing of the fork, not ahead of it", """
            untell 0 5 0 0 -> 1
            untell 0 6 0 0 -> 2
            fork 0 1 -> 1
            fork 0 2 -> 2
            tell 1 {5,6} 0 0 -> 2..3
            tell 2 {6,5} 0 0 -> 3..4
            merge 2 -> 2
            conflicts -> 0
            merge 1 -> 1
            conflicts -> 1
            holds 0 5 0 {5,6} -> true
            """);
    }

    private static void contraryRules() {
        Story.dues("Terms: about the same rule, and tells the contrary", """
            3 * addRule 1 0 1 0 0 1 -> 0..2
            fork 0 0 -> 1
            turn 0 0 false -> 1
            turn 0 1 true -> 2
            untell 0 2 0 23 -> 3
            turn 1 0 true -> 1
            turn 1 1 false -> 2
            turn 1 2 true -> 3
            turn 1 0 false -> 4
            turn 1 1 true -> 5
            tell 1 0 0 23 -> 6
            merge 1 -> 4
            conflicts -> 2
            isOn 0 {1,2} 7 -> true
            isOn 0 0 7 -> false
            """);
    }

    private static void ownTellingsAreNotContrary() {
        Story.dues("Terms: not taken by a merge of this branch", """
            addRule 1 0 1 0 0 1 -> 0
            fork 0 0 -> 1
            tell 1 5 0 0 -> 1
            untell 1 5 0 0 -> 2
            turn 1 0 true -> 3
            turn 1 0 false -> 4
            merge 1 -> 4
            conflicts -> 0
            tell 1 5 0 0 -> 5
            turn 1 0 true -> 6
            merge 1 -> 2
            conflicts -> 0
            untell 0 5 0 0 -> 7
            tell 1 5 0 0 -> 7
            untell 1 5 0 0 -> 8
            merge 1 -> 1
            conflicts -> 1
            """);
    }

    private static void otherForksAreContrary() {
        Story.dues("Terms: what a merge of another branch brought counts as against it", """
            2 * fork 0 0 -> 1..2
            tell 1 5 0 0 -> 1
            untell 2 5 0 0 -> 1
            tell 2 6 0 0 -> 2
            merge 1 -> 1
            merge 2 -> 1
            conflicts -> 1
            untell 1 6 0 0 -> 2
            merge 1 -> 0
            conflicts -> 1
            holds 0 2 0 {5,6} -> true
            """);
    }

    private static void forgottenOnes() {
        Story.dues("Terms: it is forgotten; or the contrary one is not forgotten", """
            fork 0 0 -> 1
            tell 1 {5,14} 0 0 -> 1..2
            untell 0 {14,23} 0 0 -> 1..2
            forget 5 -> 1
            tell 1 {23,6} 0 0 -> 3..4
            forget 2 -> 2
            tell 1 {23,5} 0 0 -> 5..6
            untell 0 14 0 0 -> 3
            merge 1 -> 3
            conflicts -> 3
            holds 0 6 0 {23,5,6} -> true
            isForgotten 0 {3,4,5} -> false
            """);
        Story.dues("Terms: of forgotten tellings of the other branch none is contrary", """
            fork 0 0 -> 1
            untell 0 5 0 23 -> 1
            forget 5 -> 1
            tell 1 5 0 23 -> 1
            merge 1 -> 1
            conflicts -> 0
            holds 0 2 0 5 -> true
            """);
        Story.dues("Terms: all of them are forgotten", """
            fork 0 0 -> 1
            tell 1 {5,6,7} 0 0 -> 1..3
            forget 0 -> 3
            merge 1 -> 0
            conflicts -> 3
            merge 1 -> 0
            conflicts -> 0
            knowing 0 -> 0
            """);
    }

    private static void againstUnique() {
        Story.dues("Terms: it could not be told there by tell()", """
            fork 0 0 -> 1
            tell 0 5 3 6 -> 1
            tell 1 6 6 9 -> 1
            tell 1 6 7 9 -> 2
            tell 1 7 9 9 -> 3
            tell 1 5 6 6 -> 4
            tell 1 15 0 23 -> 5
            untell 1 6 0 23 -> 6
            tell 1 4 9 9 -> 7
            setUnique 0 true -> false
            merge 1 -> 5
            conflicts -> 2
            holds 0 6 9 4 -> true
            holds 0 6 9 {6,7} -> false
            """);
    }

    private static void againstLayers() {
        Story.dues("Terms: it could not be told there by turn()", """
            addRule 1 0 1 0 0 1 -> 0
            addCondition 0 2 0 1 true -> 2
            addRule 2 0 1 1 0 1 -> 1
            fork 0 0 -> 1
            turn 0 0 true -> 1
            turn 1 1 true -> 1
            turn 1 1 false -> 2
            tell 1 5 0 0 -> 3
            merge 1 -> 2
            conflicts -> 1
            isOn 0 1 3 -> false
            fork 0 0 -> 2
            turn 2 1 true -> 1
            merge 2 -> 0
            conflicts -> 1
            turn 0 0 false -> 4
            fork 0 4 -> 3
            turn 3 1 true -> 5
            merge 3 -> 1
            conflicts -> 0
            turn 0 0 true -> throws.UnsupportedOperationException
            """);
    }

    private static void noRoom() {
        Story.dues("Terms: it could not be told there, as the branch has 60 tellings", """
            addRule 1 0 1 0 0 1 -> 0
            fork 0 0 -> 1
            58 * tell 0 9 0 0 -> 1..58
            tell 1 5 0 0 -> 1
            turn 1 0 true -> 2
            tell 1 6 0 0 -> 3
            untell 1 5 0 0 -> 4
            turn 1 0 false -> 5
            merge 1 -> 2
            conflicts -> 3
            knowing 0 -> 60
            holds 0 60 0 {5,69} -> true
            holds 0 60 0 6 -> false
            tell 1 7 0 0 -> 6
            merge 1 -> 0
            conflicts -> 1
            merge 1 -> 0
            conflicts -> 0
            """);
        Story.dues("25: a full branch into an empty one", """
            fork 0 0 -> 1
            60 * tell 1 5 0 0 -> 1..60
            merge 1 -> 60
            conflicts -> 0
            knowing 0 -> 60
            tell {0,1} 5 0 0 -> throws.IllegalStateException
            merge 1 -> 0
            """);
    }

    private static void passedOverOnce() {
        Story.dues("Terms: a telling that was passed over counts as taken", """
            fork 0 0 -> 1
            untell 0 5 0 0 -> 1
            tell 1 5 0 0 -> 1
            merge 1 -> 0
            conflicts -> 1
            forget 5 -> 2
            merge 1 -> 0
            conflicts -> 0
            setUnique 0 true -> false
            tell 0 8 0 0 -> 2
            tell 1 9 0 0 -> 2
            merge 1 -> 0
            conflicts -> 1
            setUnique 0 false -> true
            merge 1 -> 0
            conflicts -> 0
            knowing 0 -> 2
            """);
    }

    private static void manyForks() {
        Story.dues("Terms: into the branch from which it was forked", """
            fork 0 0 -> 1
            tell 1 5 0 0 -> 1
            fork 1 1 -> 2
            fork 2 1 -> 3
            tell 3 {6,7} 0 0 -> 2..3
            merge 2 -> 0
            merge 3 -> 2
            knowing {2,3} -> 3
            knowing 1 -> 1
            merge 2 -> 2
            merge 1 -> 3
            knowing {0,1,2,3} -> 3
            holds {0..3} 3 0 {5,6,7} -> true
            merge {1,2,3} -> 0
            """);
    }

    private static void conflicts() {
        Story.dues("26: 0 if there was no merge, otherwise those of the last one, and not of a refused one", """
            conflicts -> 0
            2 * fork 0 0 -> 1..2
            conflicts -> 0
            untell 0 {5,6} 0 0 -> 1..2
            tell 1 {5,6} 0 0 -> 1..2
            tell 2 5 0 0 -> 1
            merge 1 -> 0
            2 * conflicts -> 2
            merge {-1,3} -> throws.IndexOutOfBoundsException
            merge 0 -> throws.IllegalArgumentException
            conflicts -> 2
            merge 2 -> 0
            conflicts -> 1
            tell 2 7 0 0 -> 2
            conflicts -> 1
            merge 2 -> 1
            conflicts -> 0
            """);
    }
}
