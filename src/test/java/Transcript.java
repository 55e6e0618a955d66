import java.util.ArrayList;
import java.util.List;
import java.util.NoSuchElementException;
import java.util.function.Supplier;

/** Makes calls of a store and keeps what they answered, a throw as the name of its class. */
final class Transcript {
    /** With the 200 calls that a past may take, a store stays under its 512. */
    private static final int MOST_CALLS = 300;

    private final List<String> calls = new ArrayList<>();

    String call(String what, Supplier<Object> call) {
        if (calls.size() >= MOST_CALLS) {
            throw new AssertionError("more than " + MOST_CALLS + " calls");
        }
        String answer = answerOf(call);
        calls.add(what + " " + answer);
        return answer;
    }

    /** Whether the call found what it asked for: a device, a build or a group. */
    boolean found(String what, Supplier<Object> call) {
        return !call(what, call).equals(NoSuchElementException.class.getSimpleName());
    }

    boolean answered(String what, Supplier<Object> call) {
        return !call(what, call).endsWith("Exception");
    }

    private static String answerOf(Supplier<Object> call) {
        try {
            return String.valueOf(call.get());
        } catch (RuntimeException e) {
            return e.getClass().getSimpleName();
        }
    }

    List<String> calls() {
        return calls;
    }
}
