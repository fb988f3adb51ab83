import java.util.ArrayList;
import java.util.List;
import java.util.function.IntFunction;

/**
 * A run of calls on a new object, each told with what is due. After each refused call everything that can be asked
 * for is held against an object on which the same run was made without it: a call that throws changes nothing.
 */
final class Trial {
    private final Checks checks;
    private final String sentence;
    private final FretSchool school = new FretSchool();
    private final List<Call> history = new ArrayList<>();
    private int made = 0;

    Trial(Checks checks, String sentence) {
        this.checks = checks;
        this.sentence = sentence;
    }

    /** Leads on to the state that the sentence speaks of; the answer, which may not be a refusal, is handed on. */
    int goes(String name, int... a) {
        Call call = Call.of(name, a);
        String answer = make(call);
        history.add(call);
        if (Call.isRefusal(answer)) {
            checks.fail(sentence + ": " + call + " answered " + answer);
            return FretSchool.NONE;
        }
        return answer.equals("done") ? 0 : Integer.parseInt(answer);
    }

    void answers(int due, String name, int... a) {
        int got = goes(name, a);
        if (got != due) {
            checks.fail(sentence + ": " + Call.of(name, a) + " answered " + got + ", due is " + due);
        }
    }

    void refuses(Class<?> due, String name, int... a) {
        refuses(due, Call.of(name, a));
    }

    private void refuses(Class<?> due, Call call) {
        String got = make(call);
        if (!got.equals(due.getSimpleName())) {
            checks.fail(sentence + ": " + call + " answered " + got + ", due is " + due.getSimpleName());
        }
        leavesAllAsItWas(call);
    }

    /** The first values past each end of a range, and those farthest out, where sums would wrap around. */
    void refusesOutside(Class<?> due, int least, int most, IntFunction<Call> call) {
        for (int value : new int[] {least - 1, most + 1, Integer.MIN_VALUE, Integer.MAX_VALUE}) {
            refuses(due, call.apply(value));
        }
    }

    private String make(Call call) {
        made++;
        if (made > Replay.MOST_CALLS) {
            throw new AssertionError(sentence + ": a test makes more than 512 calls on one object");
        }
        return call.on(school);
    }

    private void leavesAllAsItWas(Call refused) {
        List<Call> withIt = new ArrayList<>(history);
        withIt.add(refused);
        List<String> due = Everything.of(history);
        List<String> got = Everything.of(withIt);
        for (int i = 0; i < Math.max(due.size(), got.size()); i++) {
            String dueLine = i < due.size() ? due.get(i) : "nothing more";
            String gotLine = i < got.size() ? got.get(i) : "nothing more";
            if (!gotLine.equals(dueLine)) {
                checks.fail(sentence + ": after the refused " + refused + ", " + gotLine + ", due is " + dueLine);
                return;
            }
        }
    }

    // ---- the states that trials start from

    int compose(int... pitches) {
        int piece = goes("begin");
        for (int pitch : pitches) {
            goes("addNote", piece, pitch);
        }
        return piece;
    }

    int build(int pupil, int frets, int... open) {
        goes("addWood", 0, 3);
        int order = goes("order", pupil, 0, frets);
        goes("pass", 2 * frets);
        return goes("fetch", order, open[0], open[1], open[2], open[3]);
    }

    /** A lute of the pupil 0 with 16 frets, on whose strings, all alike, a fret is told by its pitch. */
    int plainLute() {
        return build(0, 16, 0, 0, 0, 0);
    }

    void passTo(int day) {
        int today = goes("today");
        while (today < day) {
            today = goes("pass", Math.min(100, day - today));
        }
    }
}
