import java.util.NoSuchElementException;

/** Promises 27 to 29: listen, waiting, next. */
final class ListenersTest {
    private ListenersTest() {
    }

    static void run() {
        changesOfTold();
        whatIsListenedTo();
        derivedChanges();
        orderInOneCall();
        forgotten();
        merged();
        nothingForOthers();
        refusedListeners();
        refusedQuestions();
        manyChanges();
    }

    private static void dueChanges(String what, Versefold x, int listener, int... changes) {
        Check.due(what + ": how many", changes.length, x.waiting(listener));
        for (int i = 0; i < changes.length; i++) {
            Check.due(what + ": change " + i, changes[i], x.next(listener));
            Check.due(what + ": left", changes.length - 1 - i, x.waiting(listener));
        }
        Check.refused(what + ": no more", NoSuchElementException.class, () -> x.next(listener));
    }

    private static void changesOfTold() {
        Versefold x = new Versefold();
        x.tell(0, 7, 0, 23);
        Check.due("the first listener", 0, x.listen(0, 0, -1, -1, 5));
        dueChanges("what holds already", x, 0);
        x.tell(0, 0, 0, 23);
        x.tell(0, 0, 0, 23);
        x.tell(0, 63, 5, 5);
        x.tell(0, 62, 6, 6);
        x.tell(0, 64, 5, 5);
        x.untell(0, 7, 0, 5);
        x.untell(0, 0, 6, 23);
        x.untell(0, 9, 0, 23);
        dueChanges("each once", x, 0, 1, 64, -8);
        x.tell(0, 7, 5, 5);
        x.untell(0, 7, 5, 5);
        dueChanges("there and back", x, 0, 8, -8);
    }

    private static void whatIsListenedTo() {
        Versefold x = new Versefold();
        x.listen(0, 2, -1, -1, 0);
        x.listen(0, 2, 3, -1, 0);
        x.listen(0, 2, -1, 4, 0);
        x.listen(0, 2, 3, 4, 0);
        Check.due("the last listener", 4, x.listen(0, 2, 3, 4, 23));
        x.tell(0, 128 + 28, 0, 0);
        x.tell(0, 128 + 24, 0, 0);
        x.tell(0, 128 + 60, 0, 0);
        x.tell(0, 128 + 35, 0, 22);
        x.tell(0, 192 + 28, 0, 23);
        dueChanges("any, any", x, 0, 157, 153, 189, 164);
        dueChanges("3, any", x, 1, 157, 153);
        dueChanges("any, 4", x, 2, 157, 189);
        dueChanges("3, 4", x, 3, 157);
        dueChanges("another hour", x, 4);
    }

    private static void derivedChanges() {
        Versefold x = new Versefold();
        x.addRule(1, 0, 1, 0, 0, 1);
        x.addRule(2, 0, 1, 0, 0, 1);
        x.addCondition(1, 3, 0, 1, true);
        x.tell(0, 5, 0, 23);
        x.listen(0, 1, -1, -1, 0);
        x.listen(0, 2, -1, -1, 0);
        x.turn(0, 0, true);
        x.turn(0, 1, true);
        x.tell(0, 64 + 5, 0, 0);
        x.turn(0, 0, false);
        x.untell(0, 64 + 5, 0, 0);
        x.tell(0, 192 + 5, 0, 0);
        dueChanges("of the rule 0", x, 0, 70, -70);
        dueChanges("of the rule 1", x, 1, 134, -134);
    }

    private static void orderInOneCall() {
        Versefold x = new Versefold();
        x.addRule(1, 0, 1, 0, 0, 1);
        x.addCondition(0, 2, 1, 1, false);
        x.addCondition(0, 3, 1, 1, true);
        x.addRule(3, 0, 1, 2, 0, 1);
        x.addRule(1, 0, 1, 4, 0, 1);
        x.addCondition(2, 3, 0, 0, false);
        for (int second : new int[] {6, 3, 1}) {
            x.tell(0, 8 + second, 0, 0);
            x.tell(0, 8 * 7 + second, 0, 0);
        }
        x.tell(0, 256 + 16 + 5, 0, 0);
        x.tell(0, 256 + 32 + 3, 0, 0);
        x.tell(0, 128 + 9, 0, 0);
        x.tell(0, 128 + 27, 0, 0);
        x.tell(0, 128 + 54, 0, 0);
        x.tell(0, 128 + 18, 0, 0);
        x.tell(0, 128 + 36, 0, 0);
        x.listen(0, 1, -1, -1, 0);
        x.turn(0, 0, true);
        dueChanges("rising", x, 0, 64 + 10, 64 + 12, 64 + 15, 64 + 58, 64 + 60, 64 + 63);
        x.turn(0, 2, true);
        dueChanges("none as yet", x, 0);
        x.turn(0, 1, true);
        dueChanges("both together", x, 0, -74, -76, -79, 64 + 22, 64 + 36, -122, -124, -127);
    }

    private static void forgotten() {
        Versefold x = new Versefold();
        x.addRule(1, 0, 1, 0, 0, 1);
        x.addCondition(0, 2, 0, 1, true);
        x.tell(0, 10, 0, 0);
        x.tell(0, 11, 0, 0);
        x.tell(0, 19, 0, 0);
        x.tell(0, 20, 0, 0);
        x.tell(0, 128 + 20, 0, 0);
        x.fork(0, 5);
        x.turn(0, 0, true);
        x.listen(0, 1, -1, -1, 0);
        x.listen(1, 0, -1, -1, 0);
        x.listen(1, 1, -1, -1, 0);
        x.untell(0, 19, 0, 0);
        dueChanges("untold", x, 0, -84);
        x.forget(3);
        dueChanges("forgotten", x, 0, -76);
        dueChanges("in the other branch too", x, 1, -12, -20);
        dueChanges("no rule there", x, 2);
        x.forget(4);
        dueChanges("fact and forbidding fact both forgotten", x, 0);
        x.forget(4);
        dueChanges("nothing more", x, 1, -21);
        Versefold y = new Versefold();
        y.untell(0, 1, 0, 0);
        y.listen(0, 0, -1, -1, 0);
        y.tell(0, 18, 0, 0);
        y.untell(0, 18, 0, 0);
        y.forget(2);
        dueChanges("came and went", y, 0, 19, -19);
    }

    private static void merged() {
        Versefold x = new Versefold();
        x.tell(0, 40, 0, 0);
        x.fork(0, 1);
        x.listen(0, 0, -1, -1, 0);
        x.listen(1, 0, -1, -1, 0);
        x.tell(1, 30, 0, 0);
        x.tell(1, 20, 0, 0);
        x.tell(1, 10, 0, 0);
        x.untell(1, 20, 0, 0);
        x.untell(1, 40, 0, 0);
        dueChanges("not before the merge", x, 0);
        dueChanges("one by one in the branch", x, 1, 31, 21, 11, -21, -41);
        x.merge(1);
        dueChanges("a merge is one call", x, 0, 11, 31, -41);
        dueChanges("which gives the branch no tellings", x, 1);
    }

    private static void nothingForOthers() {
        Versefold x = new Versefold();
        x.tell(0, 1, 0, 0);
        x.fork(0, 1);
        x.fork(0, 0);
        x.listen(1, 0, -1, -1, 0);
        x.tell(0, 2, 0, 0);
        x.tell(2, 3, 0, 0);
        x.merge(2);
        x.fork(0, 2);
        x.setUnique(0, true);
        dueChanges("other branches", x, 0);
        x.tell(1, 9, 0, 0);
        dueChanges("its own", x, 0, 10);
    }

    private static void refusedListeners() {
        Versefold x = new Versefold();
        for (int wrong : new int[] {-2, 8, Integer.MIN_VALUE, Integer.MAX_VALUE}) {
            Check.refused("branch", IndexOutOfBoundsException.class, () -> x.listen(wrong, 6, 8, 8, 24));
            Check.refused("relation", IllegalArgumentException.class, () -> x.listen(0, wrong, 0, 0, 0));
            Check.refused("first", IllegalArgumentException.class, () -> x.listen(0, 0, wrong, 0, 0));
            Check.refused("second", IllegalArgumentException.class, () -> x.listen(0, 0, 0, wrong, 0));
        }
        Check.refused("branch 1", IndexOutOfBoundsException.class, () -> x.listen(1, 0, 0, 0, 0));
        Check.refused("branch -1", IndexOutOfBoundsException.class, () -> x.listen(-1, 0, 0, 0, 0));
        Check.refused("relation -1", IllegalArgumentException.class, () -> x.listen(0, -1, 0, 0, 0));
        Check.refused("relation 6", IllegalArgumentException.class, () -> x.listen(0, 6, 0, 0, 0));
        for (int hour : new int[] {-1, 24, Integer.MIN_VALUE, Integer.MAX_VALUE}) {
            Check.refused("hour", IllegalArgumentException.class, () -> x.listen(0, 0, 0, 0, hour));
        }
        for (int i = 0; i < 5; i++) {
            Check.due("listener " + i, i, x.listen(0, 5, 7, 7, 23));
        }
        Check.refused("five there", IllegalStateException.class, () -> x.listen(0, 0, 0, 0, 0));
        Check.refused("argument first", IllegalArgumentException.class, () -> x.listen(0, 0, 0, 0, 24));
        Check.refused("branch first", IndexOutOfBoundsException.class, () -> x.listen(1, 0, 0, 0, 0));
        x.tell(0, 383, 23, 23);
        for (int i = 0; i < 5; i++) {
            dueChanges("each is told", x, i, 384);
        }
    }

    private static void refusedQuestions() {
        Versefold x = new Versefold();
        Check.refused("no waiting 0", IndexOutOfBoundsException.class, () -> x.waiting(0));
        Check.refused("no next 0", IndexOutOfBoundsException.class, () -> x.next(0));
        x.listen(0, 0, 0, 0, 0);
        x.tell(0, 0, 0, 0);
        for (int wrong : new int[] {-1, 1, 5, Integer.MIN_VALUE, Integer.MAX_VALUE}) {
            Check.refused("waiting", IndexOutOfBoundsException.class, () -> x.waiting(wrong));
            Check.refused("next", IndexOutOfBoundsException.class, () -> x.next(wrong));
        }
        dueChanges("asking takes none", x, 0, 1);
    }

    private static void manyChanges() {
        Versefold x = new Versefold();
        x.addRule(1, 0, 2, 0, 0, 1);
        x.addCondition(0, 0, 2, 1, false);
        for (int thing = 0; thing < 8; thing++) {
            x.tell(0, 8 * thing, 0, 23);
        }
        x.listen(0, 1, -1, -1, 12);
        for (int i = 0; i < 26; i++) {
            x.turn(0, 0, true);
            x.turn(0, 0, false);
        }
        Check.due("64 facts by 52 calls", 64 * 52, x.waiting(0));
        for (int i = 0; i < 192; i++) {
            int change = 65 + i % 64;
            Check.due("change " + i, i / 64 % 2 == 0 ? change : -change, x.next(0));
        }
        Check.due("the others wait", 64 * 49, x.waiting(0));
    }
}
