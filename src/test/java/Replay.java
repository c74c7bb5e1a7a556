import java.util.ArrayList;
import java.util.List;

/**
 * Objects on which the same calls were made. What an object answers to its 513th call is free, so the
 * questions go over to another one in time, on which all was done again.
 */
final class Replay {
    static final int MOST_CALLS = 512;

    /** A call, its answer as a number. */
    interface Call {
        long answer(BigRunner runner);
    }

    private final List<Call> changes = new ArrayList<>();
    private BigRunner runner = new BigRunner();
    private int calls = 0;

    /** Makes a call, now and on each object to come: its answer, or the simple name of its exception. */
    String change(Call call) {
        String answer = answer(forCalls(1), call);
        changes.add(call);
        return answer;
    }

    void typeAll(String text) {
        for (char c : text.toCharArray()) {
            change(runner -> runner.type(c) ? 1 : 0);
        }
    }

    /** An object that can be asked so many times. */
    BigRunner forCalls(int more) {
        if (changes.size() + more > MOST_CALLS) {
            throw new AssertionError("no object is left so many calls");
        }
        if (calls + more > MOST_CALLS) {
            runner = new BigRunner();
            changes.forEach(change -> answer(runner, change));
            calls = changes.size();
        }
        calls += more;
        return runner;
    }

    /** The same text as Check.everything, of an object with a program. */
    String everything() {
        StringBuilder text = new StringBuilder();
        for (int what = 0; what <= 6; what++) {
            text.append(forCalls(1).look(what)).append(' ');
        }
        for (int i = 0; i < 10; i++) {
            text.append(variable(i)).append(' ').append(Check.bounds(forCalls(2), i)).append(' ');
        }
        int kept = Math.min(12, forCalls(1).look(5));
        for (int i = 0; i < kept; i++) {
            text.append(output(i)).append(' ');
        }
        return text.toString();
    }

    String variable(int index) {
        int digits = forCalls(1).variable(index, -2);
        return Check.variable(forCalls(digits + 2), index);
    }

    String output(int index) {
        int digits = forCalls(1).output(index, -2);
        return Check.output(forCalls(digits + 2), index);
    }

    private static String answer(BigRunner runner, Call call) {
        try {
            return Long.toString(call.answer(runner));
        } catch (RuntimeException e) {
            return e.getClass().getSimpleName();
        }
    }
}
