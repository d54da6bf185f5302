/** What can be asked of an object without changing it, as a text, in some two hundred calls. */
final class Snapshot {
    private static final int[] HOURS = {0, 5, 23};

    private Snapshot() {
    }

    static String of(Versefold x) {
        StringBuilder text = new StringBuilder();
        text.append(x.hours()).append(' ').append(x.conflicts()).append(' ').append(x.isSound());
        for (int listener = 0; listener < 5; listener++) {
            int asked = listener;
            text.append(" w").append(Check.answer(() -> x.waiting(asked)));
        }
        for (int relation = 0; relation < 6; relation++) {
            boolean was = x.setUnique(relation, false);
            x.setUnique(relation, was);
            text.append(was ? " u" : " -");
        }
        for (int branch = 0; branch < 4; branch++) {
            int asked = branch;
            if (Check.answer(() -> x.knowing(asked)) instanceof Integer) {
                addBranch(x, branch, text);
            }
        }
        return text.toString();
    }

    private static void addBranch(Versefold x, int branch, StringBuilder text) {
        int knowing = x.knowing(branch);
        text.append(" | ").append(knowing).append(' ').append(x.seal(branch, knowing));
        for (int rule = 0; rule < 10; rule++) {
            int asked = rule;
            text.append(' ').append(Check.answer(() -> x.isOn(branch, asked, knowing)));
        }
        for (int relation = 0; relation < 6; relation++) {
            text.append(" l").append(x.layer(branch, relation));
            for (int hour : HOURS) {
                text.append(' ').append(x.count(branch, knowing, hour, relation));
            }
        }
    }
}
