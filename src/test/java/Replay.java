import java.util.ArrayList;
import java.util.List;

/** A school in the state that a row of calls has led to, and what it answers from there on, written down. */
final class Replay {
    /** The document promises nothing about an object after so many calls. */
    static final int MOST_CALLS = 512;

    private final List<Call> history;
    private final List<String> told = new ArrayList<>();
    private FretSchool school;
    private int used;

    Replay(List<Call> history) {
        this.history = history;
        start();
    }

    private void start() {
        school = new FretSchool();
        for (Call call : history) {
            call.on(school);
        }
        used = history.size();
    }

    /** For calls that change nothing: a school that has had all its calls gives way to a new one in the same state. */
    String ask(String name, int... a) {
        if (used >= MOST_CALLS) {
            start();
        }
        return make(Call.of(name, a));
    }

    String change(String name, int... a) {
        if (used >= MOST_CALLS) {
            throw new AssertionError("a test makes more than 512 calls on one object");
        }
        return make(Call.of(name, a));
    }

    private String make(Call call) {
        used++;
        String answer = call.on(school);
        told.add(call + " answers " + answer);
        return answer;
    }

    List<String> told() {
        return told;
    }
}
