/** Promises 30 to 33: hours, derivedShare, meanRank, isSound. */
final class FiguresTest {
    private static final int[] WRONG = {-1, 24, Integer.MIN_VALUE, Integer.MAX_VALUE};

    private FiguresTest() {
    }

    static void run() {
        hours();
        derivedShare();
        meanRank();
        refusedFigures();
        isSound();
    }

    private static void hours() {
        Versefold x = new Versefold();
        x.addRule(1, 0, 1, 0, 0, 1);
        Check.due("nothing", 0L, x.hours());
        x.tell(0, 1, 5, 5);
        Check.due("one hour", 1L, x.hours());
        x.untell(0, 2, 0, 23);
        Check.due("and a day untold", 25L, x.hours());
        x.turn(0, 0, true);
        Check.due("rules have none", 25L, x.hours());
        x.tell(0, 1, 5, 6);
        Check.due("told twice counts twice", 27L, x.hours());
        x.fork(0, 2);
        Check.due("those of the fork again", 52L, x.hours());
        x.tell(1, 9, 0, 9);
        Check.due("its own once", 62L, x.hours());
        x.merge(1);
        Check.due("and once where it was taken", 72L, x.hours());
        x.forget(2);
        Check.due("not the forgotten ones", 24L, x.hours());
        x.forget(0);
        Check.due("only 9 is left", 20L, x.hours());
    }

    private static void derivedShare() {
        Versefold x = new Versefold();
        x.addRule(1, 0, 1, 0, 0, 1);
        x.addRule(2, 0, 1, 0, 0, 1);
        x.tell(0, 1, 0, 20);
        Check.due("all told", 0.0f, x.derivedShare(0, 5));
        x.turn(0, 0, true);
        Check.due("one of two", 0.5f, x.derivedShare(0, 5));
        x.turn(0, 1, true);
        Check.due("two of three", 2.0f / 3.0f, x.derivedShare(0, 5));
        x.tell(0, 65, 0, 4);
        Check.due("one of three, as one is told", 1.0f / 3.0f, x.derivedShare(0, 4));
        x.fork(0, 1);
        Check.due("by the present knowing of the fork", 0.0f, x.derivedShare(1, 4));
        x.untell(0, 1, 0, 23);
        Check.due("told alone", 0.0f, x.derivedShare(0, 4));
        Check.refused("none holds", ArithmeticException.class, () -> x.derivedShare(0, 5));
        Check.refused("none holds in this hour", ArithmeticException.class, () -> x.derivedShare(1, 21));
    }

    private static void meanRank() {
        Versefold x = new Versefold();
        x.addRule(1, 0, 1, 0, 0, 1);
        x.addRule(2, 0, 1, 1, 0, 1);
        x.tell(0, 1, 0, 20);
        Check.due("told", 0.0, x.meanRank(0, 5));
        x.turn(0, 0, true);
        Check.due("0 and 1", 0.5, x.meanRank(0, 5));
        x.turn(0, 1, true);
        Check.due("0, 1 and 2", 1.0, x.meanRank(0, 5));
        x.tell(0, 7, 5, 5);
        x.tell(0, 64 + 7, 5, 5);
        Check.due("and 0, 0 and 1", 4.0 / 6.0, x.meanRank(0, 5));
        x.tell(0, 320, 5, 5);
        Check.due("and 0", 4.0 / 7.0, x.meanRank(0, 5));
        x.fork(0, 2);
        Check.due("of the fork", 0.5, x.meanRank(1, 5));
        Check.refused("none holds", ArithmeticException.class, () -> x.meanRank(0, 21));
        x.forget(0);
        Check.refused("none holds any more", ArithmeticException.class, () -> x.meanRank(1, 5));
    }

    private static void refusedFigures() {
        Versefold x = new Versefold();
        for (int wrong : WRONG) {
            Check.refused("branch", IndexOutOfBoundsException.class, () -> x.derivedShare(wrong, 24));
            Check.refused("branch", IndexOutOfBoundsException.class, () -> x.meanRank(wrong, 24));
            Check.refused("hour", IllegalArgumentException.class, () -> x.derivedShare(0, wrong));
            Check.refused("hour", IllegalArgumentException.class, () -> x.meanRank(0, wrong));
        }
        Check.refused("branch 1", IndexOutOfBoundsException.class, () -> x.derivedShare(1, 0));
        Check.refused("branch 1", IndexOutOfBoundsException.class, () -> x.meanRank(1, 0));
        Check.refused("nothing", ArithmeticException.class, () -> x.derivedShare(0, 23));
        Check.refused("nothing", ArithmeticException.class, () -> x.meanRank(0, 23));
    }

    /** That isSound answers false cannot be brought about by calls: the state is spoilt behind the face here. */
    private static void isSound() {
        Versefold x = new Versefold();
        x.addRule(1, 0, 1, 0, 0, 1);
        x.turn(0, 0, true);
        for (int hour = 0; hour < 24; hour++) {
            x.tell(0, 1 + hour, hour, 23);
        }
        x.fork(0, 20);
        x.untell(1, 1, 0, 23);
        x.merge(1);
        x.forget(3);
        Check.due("sound", true, x.isSound());
        for (int branch = 0; branch < 2; branch++) {
            for (int hour = 0; hour < 24; hour++) {
                for (int relation = 0; relation < 6; relation++) {
                    long bit = 1L << (relation % 2 == 0 ? 0 : 63);
                    spoilHeld(x, branch, hour, relation, bit);
                    Check.due("spoilt in the hour " + hour, hour % 6 != 0, x.isSound());
                    spoilHeld(x, branch, hour, relation, bit);
                }
            }
            for (int knowing = 0; knowing <= x.knowing(branch); knowing++) {
                spoilSeal(x, branch, knowing, 1);
                Check.due("a spoilt seal " + knowing, false, x.isSound());
                spoilSeal(x, branch, knowing, -1);
            }
        }
        Check.due("mended", true, x.isSound());
    }

    private static void spoilHeld(Versefold x, int branch, int hour, int relation, long bit) {
        x.holds(branch, x.knowing(branch), hour, 0);
        Object kept = ((Object[]) field(row(x, branch), "kept"))[hour];
        ((long[]) field(kept, "held"))[relation] ^= bit;
    }

    private static void spoilSeal(Versefold x, int branch, int knowing, int change) {
        ((int[]) field(row(x, branch), "seals"))[knowing] += change;
    }

    private static Object row(Versefold x, int branch) {
        return ((Object[]) field(x, "branches"))[branch];
    }

    private static Object field(Object of, String name) {
        try {
            java.lang.reflect.Field field = of.getClass().getDeclaredField(name);
            field.setAccessible(true);
            return field.get(of);
        } catch (ReflectiveOperationException e) {
            throw new IllegalStateException("the test knows no field " + name, e);
        }
    }
}
