import java.util.ArrayList;
import java.util.List;

/** An object, and what it answered to each call so far. */
final class Trace {
    static final int MOST_CALLS = 512;

    private final CaseNet net = new CaseNet();
    private final List<String> answers = new ArrayList<>();
    private int calls;

    long call(String name, int... args) {
        return call(new Call(name, args));
    }

    long call(Call call) {
        calls++;
        if (calls > MOST_CALLS) {
            throw new IllegalStateException("nothing is promised after " + MOST_CALLS + " calls");
        }
        long answer = call.on(net);
        answers.add(call + " = " + answer);
        return answer;
    }

    int callsLeft() {
        return MOST_CALLS - calls;
    }

    /** Forgets the answers so far, not the calls. */
    void forgetAnswers() {
        answers.clear();
    }

    /** The first answer that is not the other one's, or an empty text. */
    String firstDifference(Trace other) {
        for (int i = 0; i < answers.size() && i < other.answers.size(); i++) {
            if (!answers.get(i).equals(other.answers.get(i))) {
                return answers.get(i) + ", without the refused calls " + other.answers.get(i);
            }
        }
        return answers.size() == other.answers.size() ? "" : "one goes on longer";
    }
}
