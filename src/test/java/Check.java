import java.util.function.Supplier;

/** Counts what is as due and prints what is not. */
final class Check {
    private static int passed = 0;
    private static int failed = 0;

    private Check() {
    }

    static void due(String what, Object want, Object got) {
        if (want.equals(got)) {
            passed++;
        } else {
            failed++;
            System.out.println(what + ": got " + got + ", due is " + want);
        }
    }

    /** The call must throw just this exception; Story and RangesTest hold that such a call changes nothing. */
    static void refused(String what, Class<? extends RuntimeException> want, Supplier<?> call) {
        due(what, want.getSimpleName(), answer(call));
    }

    /** The answer of a call, or the name of what it throws. */
    static Object answer(Supplier<?> call) {
        try {
            return call.get();
        } catch (RuntimeException e) {
            return e.getClass().getSimpleName();
        }
    }

    static int failures() {
        return failed;
    }

    static void printSummary() {
        System.out.println(passed + " passed, " + failed + " failed");
    }
}
