/** Promises 1 to 4: a new object, tell, untell, setUnique. */
final class FactsTest {
    private FactsTest() {
    }

    static void run() {
        newObject();
        tell();
        untell();
        lastTellingCounts();
        refusedTellings();
        unique();
        uniqueTellsOnly();
        fullBranch();
    }

    private static void newObject() {
        Versefold x = new Versefold();
        Check.due("a new branch 0 has no tellings", 0, x.knowing(0));
        Check.due("its seal", 1, x.seal(0, 0));
        Check.refused("there is no branch 1", IndexOutOfBoundsException.class, () -> x.knowing(1));
        Check.refused("there is no branch -1", IndexOutOfBoundsException.class, () -> x.knowing(-1));
        Check.refused("there is no rule", IndexOutOfBoundsException.class, () -> x.isOn(0, 0, 0));
        Check.refused("there is no listener", IndexOutOfBoundsException.class, () -> x.waiting(0));
        for (int relation = 0; relation < 6; relation++) {
            Check.due("nothing holds", 0, x.count(0, 0, 12, relation));
            Check.due("every layer is 0", 0, x.layer(0, relation));
            Check.due("no relation is unique", false, x.setUnique(relation, false));
        }
        Check.due("no conflicts", 0, x.conflicts());
        Check.due("no hours", 0L, x.hours());
        Check.due("sound", true, x.isSound());
    }

    private static void tell() {
        Versefold x = new Versefold();
        Check.due("tell the first fact", 1, x.tell(0, 0, 0, 0));
        Check.due("tell the last fact", 2, x.tell(0, 383, 23, 23));
        Check.due("tell it for all hours", 3, x.tell(0, 200, 0, 23));
        Check.due("tell it again", 4, x.tell(0, 200, 0, 23));
        Check.due("held in its hour", true, x.holds(0, 4, 0, 0));
        Check.due("not in the next", false, x.holds(0, 4, 1, 0));
        Check.due("the last in its hour", true, x.holds(0, 4, 23, 383));
        Check.due("not ahead of it", false, x.holds(0, 4, 22, 383));
        Check.due("not by the knowing ahead", false, x.holds(0, 1, 23, 383));
        Check.due("in the first hour", true, x.holds(0, 3, 0, 200));
        Check.due("in the last hour", true, x.holds(0, 3, 23, 200));
        Check.due("no other fact of the relation", 1, x.count(0, 4, 7, 3));
    }

    private static void untell() {
        Versefold x = new Versefold();
        Check.due("untell what was never told", 1, x.untell(0, 70, 3, 9));
        Check.due("it does not hold", false, x.holds(0, 1, 5, 70));
        Check.due("tell", 2, x.tell(0, 70, 2, 10));
        Check.due("untell inside", 3, x.untell(0, 70, 4, 6));
        boolean[] want = {false, false, true, true, false, false, false, true, true, true, true, false};
        for (int hour = 0; hour < want.length; hour++) {
            Check.due("hour " + hour, want[hour], x.holds(0, 3, hour, 70));
        }
        Check.due("the knowing ahead stays", true, x.holds(0, 2, 5, 70));
    }

    private static void lastTellingCounts() {
        Versefold x = new Versefold();
        x.tell(0, 9, 0, 10);
        x.untell(0, 9, 5, 15);
        x.tell(0, 9, 8, 8);
        x.untell(0, 10, 0, 23);
        Check.due("told", true, x.holds(0, 4, 4, 9));
        Check.due("untold", false, x.holds(0, 4, 5, 9));
        Check.due("told anew", true, x.holds(0, 4, 8, 9));
        Check.due("untold again", false, x.holds(0, 4, 9, 9));
    }

    private static void refusedTellings() {
        Versefold x = new Versefold();
        x.tell(0, 5, 0, 23);
        for (int branch : new int[] {-1, 1, 4, Integer.MIN_VALUE, Integer.MAX_VALUE}) {
            Check.refused("tell in no branch", IndexOutOfBoundsException.class, () -> x.tell(branch, -1, 5, 4));
            Check.refused("untell in no branch", IndexOutOfBoundsException.class,
                    () -> x.untell(branch, -1, 5, 4));
        }
        for (int fact : new int[] {-1, 384, Integer.MIN_VALUE, Integer.MAX_VALUE}) {
            Check.refused("tell no fact", IllegalArgumentException.class, () -> x.tell(0, fact, 0, 0));
            Check.refused("untell no fact", IllegalArgumentException.class, () -> x.untell(0, fact, 0, 0));
        }
        int[][] spans = {{-1, 0}, {0, 24}, {24, 24}, {5, 4}, {-2, -1}, {23, 0},
            {Integer.MIN_VALUE, Integer.MAX_VALUE}, {0, Integer.MAX_VALUE}};
        for (int[] span : spans) {
            Check.refused("tell no span", IllegalArgumentException.class, () -> x.tell(0, 5, span[0], span[1]));
            Check.refused("untell no span", IllegalArgumentException.class,
                    () -> x.untell(0, 5, span[0], span[1]));
        }
    }

    private static void unique() {
        Versefold x = new Versefold();
        Check.due("not unique at first", false, x.setUnique(1, true));
        Check.due("was unique", true, x.setUnique(1, true));
        x.tell(0, 64 + 8 + 2, 3, 6);
        Check.refused("another second thing", UnsupportedOperationException.class, () -> x.tell(0, 64 + 8 + 3, 0, 3));
        Check.refused("behind", UnsupportedOperationException.class, () -> x.tell(0, 64 + 8 + 3, 6, 9));
        Check.refused("inside", UnsupportedOperationException.class, () -> x.tell(0, 64 + 8, 4, 5));
        Check.refused("around", UnsupportedOperationException.class, () -> x.tell(0, 64 + 8 + 7, 0, 23));
        Check.due("beside in time", 2, x.tell(0, 64 + 8 + 3, 0, 2));
        Check.due("beside in time, later", 3, x.tell(0, 64 + 8 + 3, 7, 7));
        Check.due("the same fact", 4, x.tell(0, 64 + 8 + 2, 4, 5));
        Check.due("another first thing", 5, x.tell(0, 64 + 16 + 3, 4, 5));
        Check.due("another relation", 6, x.tell(0, 8 + 3, 4, 5));
        Check.due("untold is never against it", 7, x.untell(0, 64 + 8 + 4, 4, 5));
        Check.due("untell the one", 8, x.untell(0, 64 + 8 + 2, 3, 6));
        Check.due("then tell the other", 9, x.tell(0, 64 + 8 + 4, 3, 6));
        Check.due("no more unique", true, x.setUnique(1, false));
        Check.due("then both", 10, x.tell(0, 64 + 8 + 2, 3, 6));
        Check.due("unique again over what is told", false, x.setUnique(1, true));
        Check.refused("both stand against each other", UnsupportedOperationException.class,
                () -> x.tell(0, 64 + 8 + 2, 3, 3));
        Check.due("where it is told alone", 11, x.tell(0, 64 + 8 + 2, 8, 23));
        for (int relation : new int[] {-1, 6, Integer.MIN_VALUE, Integer.MAX_VALUE}) {
            Check.refused("no relation", IllegalArgumentException.class, () -> x.setUnique(relation, true));
        }
        x.forget(2);
        Check.due("a forgotten telling is not against it", 12, x.tell(0, 64 + 8 + 5, 9, 9));
        int branch = x.fork(0, 0);
        Check.due("other branches do not count", 1, x.tell(branch, 64 + 8 + 6, 9, 9));
        Check.refused("but all have the setting", UnsupportedOperationException.class,
                () -> x.tell(branch, 64 + 8 + 7, 9, 9));
    }

    private static void uniqueTellsOnly() {
        Versefold x = new Versefold();
        x.addRule(1, 0, 1, 0, 0, 1);
        x.tell(0, 3, 0, 5);
        x.turn(0, 0, true);
        x.setUnique(1, true);
        Check.due("derived", true, x.holds(0, 2, 0, 64 + 3));
        Check.due("what is derived is not against it", 3, x.tell(0, 64 + 4, 0, 5));
        Check.due("nor is it derived less", true, x.holds(0, 3, 0, 64 + 3));
    }

    private static void fullBranch() {
        Versefold x = new Versefold();
        x.setUnique(0, true);
        for (int i = 1; i <= 60; i++) {
            Check.due("telling " + i, i, i % 2 == 1 ? x.tell(0, 1, 0, 23) : x.untell(0, 65, 0, 23));
        }
        Check.refused("tell one more", IllegalStateException.class, () -> x.tell(0, 1, 0, 0));
        Check.refused("untell one more", IllegalStateException.class, () -> x.untell(0, 1, 0, 0));
        Check.refused("unique comes first", UnsupportedOperationException.class, () -> x.tell(0, 2, 0, 0));
        Check.refused("the argument comes first", IllegalArgumentException.class, () -> x.tell(0, 384, 0, 0));
        Check.refused("the argument comes first", IllegalArgumentException.class, () -> x.untell(0, 384, 0, 0));
        Check.refused("the branch comes first", IndexOutOfBoundsException.class, () -> x.tell(1, 384, 0, 0));
        Check.refused("the branch comes first", IndexOutOfBoundsException.class, () -> x.untell(1, 384, 0, 0));
        Check.due("a fork with less has room", 1, x.fork(0, 59));
        Check.due("for one", 60, x.untell(1, 1, 0, 23));
    }
}
