import java.util.List;
import java.util.function.Consumer;
import java.util.function.Function;
import java.util.function.Supplier;

/**
 * Two stores with the same past, one of which gets a call more. If that call is to change nothing, both
 * have to answer every later call alike. A past takes at most 200 calls.
 */
final class Twins {
    private Twins() {
    }

    static void refused(String what, Class<? extends RuntimeException> want, Supplier<Releasetrain> past,
            Consumer<Releasetrain> call) {
        refusedLeaving(what, want, past, past, call);
    }

    /** For crash, which leaves another store behind than the one that it met: one with no text typed. */
    static void refusedLeaving(String what, Class<? extends RuntimeException> want, Supplier<Releasetrain> past,
            Supplier<Releasetrain> left, Consumer<Releasetrain> call) {
        for (Probe probe : Probe.values()) {
            Releasetrain store = past.get();
            Checks.refused(what, want, () -> call.accept(store));
            dueAlike(what, probe, left, store);
        }
    }

    static void asked(String what, Object want, Supplier<Releasetrain> past, Function<Releasetrain, Object> question) {
        for (Probe probe : Probe.values()) {
            Releasetrain store = past.get();
            Checks.due(what, want, question.apply(store));
            dueAlike(what, probe, past, store);
        }
    }

    private static void dueAlike(String what, Probe probe, Supplier<Releasetrain> left, Releasetrain store) {
        List<String> due = probe.of(left.get());
        List<String> got = probe.of(store);
        int same = 0;
        while (same < due.size() && same < got.size() && due.get(same).equals(got.get(same))) {
            same++;
        }
        Checks.due(probe + " behind " + what, callAt(due, same), callAt(got, same));
    }

    private static String callAt(List<String> calls, int index) {
        return index < calls.size() ? "call " + index + ", " + calls.get(index) : "no more calls";
    }
}
