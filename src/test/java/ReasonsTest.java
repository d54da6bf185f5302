import java.util.NoSuchElementException;
import java.util.function.Supplier;

/** Promises 17 to 20: rank, reason, reasonFact, proof. */
final class ReasonsTest {
    private ReasonsTest() {
    }

    static void run() {
        chain();
        ranksAcrossLayers();
        lowestRuleOfSeveral();
        rankBeatsRuleNumber();
        lowestWayOfSeveral();
        contraryConditions();
        sharedProof();
        refusedAlike();
        refusedPremises();
    }

    private static void dueReason(Versefold x, int fact, int rank, int rule, int proof, int... premises) {
        int knowing = x.knowing(0);
        Check.due("rank of " + fact, rank, x.rank(0, knowing, 0, fact));
        Check.due("reason of " + fact, rule, x.reason(0, knowing, 0, fact));
        Check.due("proof of " + fact, proof, x.proof(0, knowing, 0, fact));
        for (int i = 0; i < premises.length; i++) {
            Check.due("premise " + i + " of " + fact, premises[i], x.reasonFact(0, knowing, 0, fact, i));
        }
        for (int index : new int[] {-1, premises.length, Integer.MIN_VALUE, Integer.MAX_VALUE}) {
            Check.refused("premise " + index + " of " + fact, NoSuchElementException.class,
                    () -> x.reasonFact(0, knowing, 0, fact, index));
        }
    }

    private static void chain() {
        Versefold x = new Versefold();
        x.addRule(1, 0, 1, 0, 0, 1);
        x.addRule(1, 0, 2, 1, 0, 1);
        x.addCondition(1, 0, 1, 2, false);
        for (int thing = 0; thing < 7; thing++) {
            x.tell(0, 9 * thing + 1, 0, 0);
        }
        x.turn(0, 0, true);
        x.turn(0, 1, true);
        dueReason(x, 1, 0, -1, 1);
        dueReason(x, 64 + 1, 1, 0, 2, 1);
        dueReason(x, 64 + 2, 2, 1, 4, 65, 10);
        dueReason(x, 64 + 7, 7, 1, 14, 64 + 6, 55);
        x.tell(0, 64 + 5, 0, 0);
        dueReason(x, 64 + 5, 0, -1, 1);
        dueReason(x, 64 + 7, 2, 1, 5, 64 + 6, 55);
        Check.due("by the knowing before", 7, x.rank(0, 9, 0, 64 + 7));
        Check.due("its proof", 14, x.proof(0, 9, 0, 64 + 7));
        x.untell(0, 64 + 5, 0, 0);
        dueReason(x, 64 + 7, 7, 1, 14, 64 + 6, 55);
    }

    private static void ranksAcrossLayers() {
        Versefold x = new Versefold();
        x.addRule(1, 0, 1, 0, 0, 1);
        x.addRule(2, 0, 1, 1, 0, 1);
        x.addRule(4, 0, 1, 2, 0, 1);
        x.addCondition(2, 3, 0, 1, true);
        x.addRule(4, 0, 1, 4, 1, 0);
        for (int rule = 0; rule < 4; rule++) {
            x.turn(0, rule, true);
        }
        x.tell(0, 5, 0, 0);
        dueReason(x, 256 + 5, 3, 2, 4, 128 + 5);
        dueReason(x, 256 + 40, 4, 3, 5, 256 + 5);
    }

    private static void lowestRuleOfSeveral() {
        Versefold x = new Versefold();
        x.addRule(1, 0, 1, 0, 0, 1);
        x.addRule(1, 0, 1, 2, 0, 1);
        x.addRule(1, 0, 1, 3, 0, 1);
        x.turn(0, 2, true);
        x.turn(0, 1, true);
        x.tell(0, 128 + 7, 0, 0);
        x.tell(0, 192 + 7, 0, 0);
        dueReason(x, 64 + 7, 1, 1, 2, 128 + 7);
        x.tell(0, 7, 0, 0);
        dueReason(x, 64 + 7, 1, 1, 2, 128 + 7);
        x.turn(0, 0, true);
        dueReason(x, 64 + 7, 1, 0, 2, 7);
        x.turn(0, 0, false);
        x.turn(0, 1, false);
        dueReason(x, 64 + 7, 1, 2, 2, 192 + 7);
    }

    private static void rankBeatsRuleNumber() {
        Versefold x = new Versefold();
        x.addRule(1, 0, 1, 2, 0, 1);
        x.addRule(2, 0, 1, 0, 0, 1);
        x.addRule(1, 0, 2, 3, 0, 1);
        x.addCondition(2, 3, 1, 2, false);
        for (int rule = 0; rule < 3; rule++) {
            x.turn(0, rule, true);
        }
        x.tell(0, 7, 0, 0);
        dueReason(x, 64 + 7, 2, 0, 3, 128 + 7);
        x.tell(0, 192 + 5, 0, 0);
        x.tell(0, 192 + 47, 0, 0);
        dueReason(x, 64 + 7, 1, 2, 3, 192 + 5, 192 + 47);
    }

    private static void lowestWayOfSeveral() {
        Versefold x = new Versefold();
        x.addRule(1, 2, 2, 0, 2, 0);
        x.addCondition(0, 0, 2, 1, false);
        x.addRule(2, 0, 0, 0, 0, 2);
        x.turn(0, 0, true);
        x.turn(0, 1, true);
        x.tell(0, 8 * 4 + 6, 0, 0);
        x.tell(0, 8 * 4 + 3, 0, 0);
        dueReason(x, 64 + 36, 1, 0, 2, 35, 35);
        dueReason(x, 128 + 36, 1, 1, 2, 35);
        x.addRule(3, 2, 2, 0, 2, 1);
        x.addCondition(2, 4, 0, 2, false);
        x.turn(0, 2, true);
        x.tell(0, 256 + 8 * 5 + 4, 0, 0);
        x.tell(0, 256 + 8 * 2 + 4, 0, 0);
        dueReason(x, 192 + 36, 1, 2, 3, 35, 256 + 20);
        x.untell(0, 35, 0, 0);
        dueReason(x, 192 + 36, 1, 2, 3, 38, 256 + 20);
        Check.due("by the variable 1 before", 35, x.reasonFact(0, 7, 0, 192 + 36, 0));
    }

    private static void contraryConditions() {
        Versefold x = new Versefold();
        x.addRule(1, 0, 2, 0, 0, 1);
        x.addCondition(0, 3, 0, 1, true);
        x.addCondition(0, 0, 1, 2, false);
        x.turn(0, 0, true);
        x.tell(0, 1, 0, 0);
        x.tell(0, 2, 0, 0);
        x.tell(0, 8 + 7, 0, 0);
        x.tell(0, 16 + 7, 0, 0);
        dueReason(x, 64 + 7, 1, 0, 3, 1, 15);
        x.tell(0, 192 + 1, 0, 0);
        dueReason(x, 64 + 7, 1, 0, 3, 2, 23);
        x.tell(0, 192 + 2, 0, 0);
        Check.refused("no way is left", NoSuchElementException.class, () -> x.rank(0, 7, 0, 64 + 7));
    }

    private static void sharedProof() {
        Versefold x = new Versefold();
        x.addRule(1, 0, 1, 0, 0, 1);
        x.addRule(2, 0, 1, 1, 0, 1);
        x.addCondition(1, 1, 1, 0, false);
        x.addCondition(1, 0, 0, 1, false);
        x.turn(0, 0, true);
        x.turn(0, 1, true);
        x.tell(0, 2 * 8 + 3, 0, 0);
        x.tell(0, 3 * 8 + 2, 0, 0);
        x.tell(0, 5 * 8 + 5, 0, 0);
        dueReason(x, 128 + 19, 2, 1, 5, 64 + 19, 64 + 26, 19);
        dueReason(x, 128 + 45, 2, 1, 3, 64 + 45, 64 + 45, 45);
    }

    private interface Question {
        Supplier<?> ask(Versefold x, int branch, int knowing, int hour, int fact);
    }

    private static void refusedAlike() {
        Versefold x = new Versefold();
        x.tell(0, 5, 3, 4);
        Question[] questions = {
            (y, b, k, h, f) -> () -> y.rank(b, k, h, f),
            (y, b, k, h, f) -> () -> y.reason(b, k, h, f),
            (y, b, k, h, f) -> () -> y.reasonFact(b, k, h, f, 0),
            (y, b, k, h, f) -> () -> y.proof(b, k, h, f)
        };
        for (Question q : questions) {
            for (int wrong : new int[] {-1, 2, Integer.MIN_VALUE, Integer.MAX_VALUE}) {
                Check.refused("branch", IndexOutOfBoundsException.class, q.ask(x, wrong, 0, 24, 384));
                Check.refused("knowing", IndexOutOfBoundsException.class, q.ask(x, 0, wrong, 24, 384));
            }
            Check.refused("branch 1", IndexOutOfBoundsException.class, q.ask(x, 1, 0, 0, 0));
            for (int hour : new int[] {-1, 24, Integer.MIN_VALUE, Integer.MAX_VALUE}) {
                Check.refused("hour", IllegalArgumentException.class, q.ask(x, 0, 1, hour, 5));
            }
            for (int fact : new int[] {-1, 384, Integer.MIN_VALUE, Integer.MAX_VALUE}) {
                Check.refused("fact", IllegalArgumentException.class, q.ask(x, 0, 1, 3, fact));
            }
            Check.refused("another hour", NoSuchElementException.class, q.ask(x, 0, 1, 5, 5));
            Check.refused("another knowing", NoSuchElementException.class, q.ask(x, 0, 0, 3, 5));
            Check.refused("another fact", NoSuchElementException.class, q.ask(x, 0, 1, 3, 6));
        }
        Check.due("it is told", 0, x.rank(0, 1, 3, 5));
    }

    private static void refusedPremises() {
        Versefold x = new Versefold();
        x.addRule(1, 0, 1, 0, 0, 1);
        x.turn(0, 0, true);
        x.tell(0, 5, 3, 4);
        Check.refused("a told fact has none", NoSuchElementException.class, () -> x.reasonFact(0, 2, 3, 5, 0));
        Check.due("a derived one has", 5, x.reasonFact(0, 2, 3, 69, 0));
        Check.refused("but one", NoSuchElementException.class, () -> x.reasonFact(0, 2, 3, 69, 1));
        Check.refused("none ahead of it", NoSuchElementException.class, () -> x.reasonFact(0, 2, 3, 69, -1));
    }
}
