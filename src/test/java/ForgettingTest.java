/** Promises 21 to 23: forget, isForgotten, seal. */
final class ForgettingTest {
    private static final int[] WRONG = {-1, 9, Integer.MIN_VALUE, Integer.MAX_VALUE};

    private ForgettingTest() {
    }

    static void run() {
        forget();
        forgetInBranches();
        pastIsForgotten();
        isForgotten();
        seal();
        sealsOfLongRows();
    }

    private static void forget() {
        Versefold x = new Versefold();
        x.addRule(3, 0, 1, 0, 0, 1);
        x.turn(0, 0, true);
        x.tell(0, 8 * 3 + 5, 0, 23);
        x.tell(0, 8 * 5 + 3, 0, 23);
        x.tell(0, 8 * 3 + 3, 0, 23);
        x.untell(0, 8 * 3 + 3, 0, 4);
        x.tell(0, 64 + 8 * 4 + 4, 0, 23);
        Check.due("all that have 3", 4, x.forget(3));
        Check.due("not again", 0, x.forget(3));
        Check.due("nor those that have 5", 0, x.forget(5));
        Check.due("those of the rule stay", true, x.isOn(0, 0, 6));
        Check.due("the other fact stays", true, x.holds(0, 6, 0, 64 + 36));
        Check.due("none of the relation 0", 0, x.count(0, 6, 9, 0));
        Check.due("nor derived", 0, x.count(0, 6, 9, 3));
        Check.due("later tellings are not forgotten", 7, x.tell(0, 8 * 3 + 5, 0, 23));
        Check.due("and hold", true, x.holds(0, 7, 0, 192 + 29));
        Check.due("until they are, too", 1, x.forget(5));
        for (int thing : new int[] {-1, 8, Integer.MIN_VALUE, Integer.MAX_VALUE}) {
            Check.refused("no thing", IllegalArgumentException.class, () -> x.forget(thing));
        }
        Check.due("the last thing", 0, x.forget(7));
        Check.due("the rule 0 is not the thing 0", 0, x.forget(0));
    }

    private static void forgetInBranches() {
        Versefold x = new Versefold();
        x.tell(0, 1, 0, 0);
        x.fork(0, 1);
        x.tell(1, 2, 0, 0);
        x.tell(1, 9, 0, 0);
        x.tell(0, 16, 0, 0);
        Check.due("in all branches", 4, x.forget(0));
        Check.due("the copy", true, x.isForgotten(1, 0));
        Check.due("its own", true, x.isForgotten(1, 1));
        Check.due("not the third", false, x.isForgotten(1, 2));
        x.fork(1, 3);
        Check.due("a later fork has it forgotten", true, x.isForgotten(2, 0));
        Check.due("so that it is not told there", false, x.holds(2, 3, 0, 1));
        Check.due("nor forgotten anew", 0, x.forget(0));
        Check.due("but what is not, in both", 2, x.forget(1));
        x.fork(0, 0);
        x.tell(3, 63, 0, 0);
        Check.due("in the last branch", 1, x.forget(7));
        Check.due("and no more", true, x.isForgotten(3, 0));
    }

    private static void pastIsForgotten() {
        Versefold x = new Versefold();
        x.tell(0, 1, 0, 5);
        x.tell(0, 19, 0, 5);
        x.untell(0, 1, 0, 5);
        x.forget(1);
        Check.due("by the knowing 1", false, x.holds(0, 1, 0, 1));
        Check.due("the other by the knowing 2", true, x.holds(0, 2, 0, 19));
        Check.due("anew", false, x.holdsAnew(0, 1, 0, 1));
        x.tell(0, 1, 0, 5);
        Check.due("the untelling is forgotten", true, x.holds(0, 4, 0, 1));
    }

    private static void isForgotten() {
        Versefold x = new Versefold();
        x.tell(0, 1, 0, 5);
        x.untell(0, 8 * 4 + 1, 0, 5);
        Check.due("not at first", false, x.isForgotten(0, 0) || x.isForgotten(0, 1));
        x.forget(4);
        Check.due("not the first", false, x.isForgotten(0, 0));
        Check.due("the second", true, x.isForgotten(0, 1));
        x.fork(0, 1);
        for (int wrong : WRONG) {
            Check.refused("no branch", IndexOutOfBoundsException.class, () -> x.isForgotten(wrong, 0));
            Check.refused("no telling", IndexOutOfBoundsException.class, () -> x.isForgotten(0, wrong));
        }
        Check.refused("the next telling", IndexOutOfBoundsException.class, () -> x.isForgotten(0, 2));
        Check.refused("the next telling of the fork", IndexOutOfBoundsException.class, () -> x.isForgotten(1, 1));
    }

    private static void seal() {
        Versefold x = new Versefold();
        x.addRule(1, 0, 1, 0, 0, 1);
        x.addRule(2, 0, 1, 0, 0, 1);
        Check.due("of nothing", 1, x.seal(0, 0));
        x.tell(0, 1, 0, 23);
        Check.due("7 31 1, 0, 23, and 31", 12989, x.seal(0, 1));
        x.turn(0, 1, true);
        Check.due("13 31 1", (31 * 12989 + 13 * 31 + 1) % 65521, x.seal(0, 2));
        int third = x.seal(0, 2);
        x.turn(0, 1, false);
        Check.due("17 31 1", (31 * third + 17 * 31 + 1) % 65521, x.seal(0, 3));
        int fourth = x.seal(0, 3);
        x.untell(0, 2, 3, 4);
        Check.due("11 31 2, 3, 4", (31 * fourth + ((11 * 31 + 2) * 31 + 3) * 31 % 65521 + 4) % 65521, x.seal(0, 4));
        int before = x.seal(0, 4);
        x.forget(0);
        Check.due("forgetting leaves it", before, x.seal(0, 4));
        Check.due("and that of before", 12989, x.seal(0, 1));
        x.fork(0, 2);
        Check.due("the fork's are the same", third, x.seal(1, 2));
        for (int wrong : WRONG) {
            Check.refused("no branch", IndexOutOfBoundsException.class, () -> x.seal(wrong, 0));
            Check.refused("no knowing", IndexOutOfBoundsException.class, () -> x.seal(0, wrong));
        }
        Check.refused("the next knowing", IndexOutOfBoundsException.class, () -> x.seal(0, 5));
        Check.refused("the next knowing of the fork", IndexOutOfBoundsException.class, () -> x.seal(1, 3));
    }

    private static void sealsOfLongRows() {
        Versefold x = new Versefold();
        long due = 1L;
        for (int i = 0; i < 60; i++) {
            int fact = 383 - i;
            x.tell(0, fact, i % 24, 23);
            long digest = (((7L * 31 + fact) * 31 + i % 24) * 31 + 23) % 65521;
            due = (31 * due + digest) % 65521;
            Check.due("seal " + (i + 1), (int) due, x.seal(0, i + 1));
        }
    }
}
