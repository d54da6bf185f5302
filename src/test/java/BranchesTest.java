/** Promises 24 to 26: fork, merge, conflicts. */
final class BranchesTest {
    private static final int[] WRONG = {-1, 9, Integer.MIN_VALUE, Integer.MAX_VALUE};

    private BranchesTest() {
    }

    static void run() {
        fork();
        refusedForks();
        merge();
        contraryFacts();
        notContrary();
        contraryRules();
        forgottenTellings();
        uniqueInMerge();
        layersInMerge();
        roomInMerge();
        takenOnce();
        forkOfFork();
        forkAheadOfFork();
        refusedMerges();
    }

    private static void dueMerge(Versefold x, int branch, int told, int conflicts) {
        Check.due("merge " + branch, told, x.merge(branch));
        Check.due("conflicts", conflicts, x.conflicts());
    }

    private static void fork() {
        Versefold x = new Versefold();
        x.tell(0, 1, 0, 23);
        x.tell(0, 2, 0, 23);
        Check.due("the first fork", 1, x.fork(0, 1));
        Check.due("with one telling", 1, x.knowing(1));
        Check.due("which holds", true, x.holds(1, 1, 0, 1));
        Check.due("the next does not", false, x.holds(1, 1, 0, 2));
        x.untell(1, 1, 0, 23);
        Check.due("told apart", true, x.holds(0, 2, 0, 1));
        Check.due("and untold there", false, x.holds(1, 2, 0, 1));
        Check.due("the branch 0 keeps its knowing", 2, x.knowing(0));
        Check.due("a fork of nothing", 2, x.fork(0, 0));
        Check.due("has nothing", 0, x.knowing(2));
        Check.due("a fork of all of a fork", 3, x.fork(1, 2));
        Check.due("untold there too", false, x.holds(3, 2, 0, 1));
    }

    private static void refusedForks() {
        Versefold x = new Versefold();
        x.tell(0, 1, 0, 23);
        for (int wrong : WRONG) {
            Check.refused("no branch", IndexOutOfBoundsException.class, () -> x.fork(wrong, 0));
            Check.refused("no knowing", IndexOutOfBoundsException.class, () -> x.fork(0, wrong));
        }
        Check.refused("the next knowing", IndexOutOfBoundsException.class, () -> x.fork(0, 2));
        Check.due("none was made", 1, x.fork(0, 0));
        x.fork(0, 0);
        Check.due("the last one", 3, x.fork(0, 0));
        Check.refused("four there", IllegalStateException.class, () -> x.fork(3, 0));
        Check.refused("no knowing comes first", IndexOutOfBoundsException.class, () -> x.fork(3, 1));
        Check.refused("no fifth branch", IndexOutOfBoundsException.class, () -> x.knowing(4));
    }

    private static void merge() {
        Versefold x = new Versefold();
        x.addRule(1, 0, 1, 0, 0, 1);
        x.tell(0, 1, 0, 23);
        x.fork(0, 1);
        dueMerge(x, 1, 0, 0);
        x.tell(1, 2, 3, 4);
        x.untell(1, 1, 5, 6);
        x.turn(1, 0, true);
        dueMerge(x, 1, 3, 0);
        Check.due("three more", 4, x.knowing(0));
        Check.due("in their order", true, x.holds(0, 2, 3, 2) && x.holds(0, 2, 5, 1));
        Check.due("then untold", false, x.holds(0, 3, 5, 1));
        Check.due("and on", true, x.isOn(0, 0, 4));
        Check.due("off before", false, x.isOn(0, 0, 3));
        Check.due("with the same digests", x.seal(1, 4), x.seal(0, 4));
        Check.due("the branch is left as it is", 4, x.knowing(1));
        dueMerge(x, 1, 0, 0);
        Check.due("taken once", 4, x.knowing(0));
    }

    private static void contraryFacts() {
        Versefold x = new Versefold();
        x.tell(0, 1, 0, 23);
        x.fork(0, 1);
        x.untell(0, 1, 5, 8);
        x.tell(0, 2, 5, 8);
        int[][] toTell = {{1, 0, 4}, {1, 0, 5}, {1, 8, 9}, {1, 9, 9}, {1, 6, 7}, {1, 0, 23}};
        for (int[] row : toTell) {
            x.tell(1, row[0], row[1], row[2]);
        }
        x.untell(1, 2, 0, 4);
        x.untell(1, 2, 8, 8);
        x.untell(1, 1, 6, 6);
        dueMerge(x, 1, 4, 5);
        Check.due("2 is not untold", true, x.holds(0, 7, 8, 2));
        Check.due("1 is not told", false, x.holds(0, 7, 8, 1));
        x.tell(1, 3, 0, 0);
        dueMerge(x, 1, 1, 0);
    }

    private static void notContrary() {
        Versefold x = new Versefold();
        x.addRule(1, 0, 1, 0, 0, 1);
        x.addRule(1, 0, 1, 0, 0, 1);
        x.untell(0, 1, 0, 23);
        x.tell(0, 2, 0, 23);
        x.fork(0, 1);
        x.tell(1, 1, 0, 23);
        x.untell(1, 3, 0, 23);
        x.turn(1, 1, true);
        x.untell(0, 1, 0, 0);
        x.turn(0, 0, false);
        x.untell(0, 65, 0, 0);
        x.tell(1, 65, 1, 1);
        x.untell(1, 0, 0, 0);
        dueMerge(x, 1, 4, 1);
        Check.due("the facts 0 and 1 are not the rules", true, x.isOn(0, 1, 9));
        Versefold y = new Versefold();
        y.untell(0, 1, 0, 23);
        y.fork(0, 1);
        y.tell(1, 1, 0, 23);
        dueMerge(y, 1, 1, 0);
        y.untell(1, 1, 0, 23);
        dueMerge(y, 1, 1, 0);
        Check.due("what it took itself is not against it", false, y.holds(0, 3, 0, 1));
    }

    private static void contraryRules() {
        Versefold x = new Versefold();
        x.addRule(1, 0, 1, 0, 0, 1);
        x.addRule(2, 0, 1, 0, 0, 1);
        x.fork(0, 0);
        x.turn(0, 0, false);
        x.turn(1, 0, true);
        x.turn(1, 1, true);
        dueMerge(x, 1, 1, 1);
        Check.due("the rule 0 stays off", false, x.isOn(0, 0, 2));
        Check.due("the rule 1 comes on", true, x.isOn(0, 1, 2));
        x.turn(1, 0, false);
        x.turn(1, 1, false);
        x.turn(0, 1, true);
        dueMerge(x, 1, 1, 1);
        Check.due("on again there", true, x.isOn(0, 1, 4));
    }

    private static void forgottenTellings() {
        Versefold x = new Versefold();
        x.fork(0, 0);
        x.tell(1, 1, 0, 23);
        x.tell(1, 18, 0, 23);
        x.untell(0, 18, 0, 23);
        x.forget(1);
        dueMerge(x, 1, 0, 2);
        x.tell(1, 18, 0, 23);
        x.forget(2);
        x.tell(1, 18, 0, 23);
        dueMerge(x, 1, 1, 1);
        Check.due("the forgotten one is not against it", true, x.holds(0, 2, 0, 18));
        Check.due("what was taken is not forgotten", false, x.isForgotten(0, 1));
    }

    private static void uniqueInMerge() {
        Versefold x = new Versefold();
        x.tell(0, 1, 0, 5);
        x.fork(0, 0);
        x.tell(1, 2, 5, 9);
        x.tell(1, 2, 6, 9);
        x.tell(1, 3, 9, 10);
        x.untell(1, 4, 0, 23);
        x.setUnique(0, true);
        dueMerge(x, 1, 2, 2);
        Check.due("of those only 2 from 6 on", false, x.holds(0, 3, 5, 2));
        Check.due("2", true, x.holds(0, 3, 9, 2));
        Check.due("not 3", false, x.holds(0, 3, 10, 3));
        x.untell(1, 2, 0, 23);
        x.tell(1, 3, 9, 9);
        dueMerge(x, 1, 2, 0);
        Check.due("one behind the other", true, x.holds(0, 5, 9, 3));
    }

    private static void layersInMerge() {
        Versefold x = new Versefold();
        x.addRule(1, 0, 1, 0, 0, 1);
        x.addCondition(0, 2, 0, 1, true);
        x.addRule(2, 0, 1, 1, 0, 1);
        x.fork(0, 0);
        x.turn(0, 0, true);
        x.turn(1, 1, true);
        x.tell(1, 0, 0, 0);
        dueMerge(x, 1, 1, 1);
        Check.due("not on there", false, x.isOn(0, 1, 2));
        x.turn(1, 1, true);
        x.turn(0, 0, false);
        dueMerge(x, 1, 1, 0);
        Check.due("now on there", true, x.isOn(0, 1, 4));
    }

    private static void roomInMerge() {
        Versefold x = new Versefold();
        x.fork(0, 0);
        for (int i = 0; i < 58; i++) {
            x.tell(0, 1, 0, 0);
        }
        for (int i = 0; i < 5; i++) {
            x.tell(1, 10 + i, 0, 0);
        }
        dueMerge(x, 1, 2, 3);
        Check.due("full", 60, x.knowing(0));
        Check.due("the second one is there", true, x.holds(0, 60, 0, 11));
        Check.due("a fork of all 60", 60, x.knowing(x.fork(0, 60)));
        Check.due("with the same seal", x.seal(0, 60), x.seal(2, 60));
        x.untell(1, 5, 0, 0);
        dueMerge(x, 1, 0, 1);
        dueMerge(x, 1, 0, 0);
    }

    private static void takenOnce() {
        Versefold x = new Versefold();
        x.fork(0, 0);
        x.untell(0, 1, 0, 0);
        x.tell(1, 1, 0, 0);
        dueMerge(x, 1, 0, 1);
        x.forget(0);
        dueMerge(x, 1, 0, 0);
        Check.due("what was passed over stays out", 1, x.knowing(0));
        x.fork(0, 1);
        dueMerge(x, 2, 0, 0);
    }

    private static void forkOfFork() {
        Versefold x = new Versefold();
        x.fork(0, 0);
        x.tell(1, 1, 0, 0);
        x.fork(1, 1);
        x.fork(1, 1);
        x.tell(2, 2, 0, 0);
        x.untell(3, 2, 0, 0);
        x.untell(3, 1, 0, 0);
        dueMerge(x, 2, 1, 0);
        Check.due("into the branch 1", 2, x.knowing(1));
        Check.due("not into the branch 0", 0, x.knowing(0));
        dueMerge(x, 3, 1, 1);
        Check.due("what another merge took is against it", true, x.holds(1, 3, 0, 2));
        dueMerge(x, 1, 3, 0);
        Check.due("and all goes on", true, x.holds(0, 3, 0, 2));
        Check.due("in its order", false, x.holds(0, 3, 0, 1));
    }

    private static void forkAheadOfFork() {
        Versefold x = new Versefold();
        x.tell(0, 1, 0, 0);
        x.tell(0, 2, 0, 0);
        x.fork(0, 2);
        x.fork(1, 1);
        x.untell(2, 2, 0, 0);
        x.untell(2, 1, 0, 0);
        dueMerge(x, 2, 1, 1);
        Check.due("what the branch has of its own fork is against it", true, x.holds(1, 3, 0, 2));
        dueMerge(x, 1, 1, 0);
    }

    private static void refusedMerges() {
        Versefold x = new Versefold();
        Check.due("none at first", 0, x.conflicts());
        x.fork(0, 0);
        x.untell(0, 1, 0, 0);
        x.tell(1, 1, 0, 0);
        dueMerge(x, 1, 0, 1);
        for (int wrong : new int[] {-1, 2, 4, Integer.MIN_VALUE, Integer.MAX_VALUE}) {
            Check.refused("no branch", IndexOutOfBoundsException.class, () -> x.merge(wrong));
        }
        Check.refused("the branch 0", IllegalArgumentException.class, () -> x.merge(0));
        Check.due("the conflicts stay", 1, x.conflicts());
    }
}
