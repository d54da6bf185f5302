import java.util.ArrayList;
import java.util.List;

/**
 * A run of written calls on a new object, with the answers that are due by a sentence of the document. Behind each
 * refused call it is held that nothing has changed: an object on which it was made must answer all that can be asked
 * as one does on which it was not.
 */
final class Story {
    // NOW in a question is one call more: this is why only half of what is left is used at once.
    private static final int CALLS = 512;
    private static final int REFUSED_AT_ONCE = 60;

    /** What can be asked, and what follow-up calls show; each of these is asked of an object made anew. */
    private static final String[] QUESTIONS = {
        """
        knowing {0..3}
        seal {0..3} {0..60}
        """, """
        isForgotten {0..3} {0..59}
        """, """
        isOn {0..3} {0..9} {0,7,60}
        isOn {0..3} {0..9} NOW
        layer {0..3} {0..5}
        setUnique {0..5} true
        conflicts
        hours
        isSound
        """, """
        count {0..3} NOW {0,5,23} {0..5}
        count {0..3} 1 {0,23} {0,5}
        derivedShare {0..3} {0,5,23}
        meanRank {0..3} {0,5,23}
        """, """
        waiting {0..4}
        30 * next {0..4}
        """, """
        2 * addCondition {0..9} 0 0 0 false
        11 * addRule 0 0 0 0 0 0
        addCondition {0..9} 0 0 1 false
        turn 0 {0..9} true
        """, """
        merge {1..3}
        conflicts
        knowing {0..3}
        seal {0..3} NOW
        merge {3,2,1}
        conflicts
        4 * fork 0 0
        """, """
        6 * listen 0 0 -1 -1 0
        turn 0 {0..9} false
        untell 0 {0..63} 0 0
        waiting {0..4}
        next {0..4}
        """, """
        tell {0..3} {2,7,65,194,383} 0 23
        untell {0..3} {1,64,383} 5 23
        count {0..3} NOW {0,5,23} {0..5}
        forget {0..7}
        count {0..3} NOW {0,5,23} {0..5}
        hours
        """, """
        rank {0..3} NOW 0 {0,1,9,64,65,66,128,130,320,383}
        proof {0..3} NOW 0 {0,1,9,64,65,66,128,130,320,383}
        since {0..3} 0 {0,1,9,64,65,383}
        """
    };

    private Story() {
    }

    static void dues(String sentence, String text) {
        List<Calls.Line> lines = Calls.lines(text);
        Check.due(sentence + ": not more calls than an object is used for", true, lines.size() <= CALLS);
        Versefold x = new Versefold();
        Model m = new Model();
        List<String> done = new ArrayList<>();
        List<String> refused = new ArrayList<>();
        for (Calls.Line line : lines) {
            if (!line.isRefused() || refused.size() == REFUSED_AT_ONCE) {
                changeNothing(sentence, done, refused);
                refused.clear();
            }
            Check.due(sentence + ": " + line.call(), line.due(), Calls.answer(x, line.call()));
            Check.due(sentence + ", by the model: " + line.call(), line.due(), Calls.answer(m, line.call()));
            (line.isRefused() ? refused : done).add(line.call());
        }
        changeNothing(sentence, done, refused);
    }

    /** Holds that these refused calls leave an object on which the others were done as it was. */
    static void changeNothing(String sentence, List<String> done, List<String> refused) {
        for (int i = 0; i < QUESTIONS.length && !refused.isEmpty(); i++) {
            List<Calls.Line> questions = Calls.lines(QUESTIONS[i]);
            int room = (CALLS - done.size() - refused.size()) / 2;
            Check.due(sentence + ": calls are left to ask", true, room > 0);
            for (int from = 0; from < questions.size() && room > 0; from += room) {
                List<Calls.Line> asked = questions.subList(from, Math.min(from + room, questions.size()));
                Versefold left = after(done);
                Versefold tried = after(done);
                refused.forEach(call -> Calls.answer(tried, call));
                Check.due(sentence + ": nothing is changed by " + refused, answers(left, asked), answers(tried, asked));
            }
        }
    }

    static Versefold after(List<String> calls) {
        Versefold x = new Versefold();
        calls.forEach(call -> Calls.answer(x, call));
        return x;
    }

    private static String answers(Versefold x, List<Calls.Line> questions) {
        StringBuilder answers = new StringBuilder();
        for (Calls.Line line : questions) {
            answers.append(line.call()).append(" -> ").append(Calls.answer(x, line.call())).append('\n');
        }
        return answers.toString();
    }
}
