import java.util.function.Function;

/** Every call that only tells something: its answer on a store with something of everything, and no change. */
public final class QuestionTest {
    private QuestionTest() {
    }

    public static void main(String[] args) {
        questionsAboutBuilds();
        questionsAboutDevices();
        questionsAboutGroups();
        questionsAboutTheStore();
        Checks.finish("QuestionTest");
    }

    private static void due(String question, Object want, Function<Releasetrain, Object> call) {
        Twins.asked(question, want, Pasts::busy, call);
    }

    private static void questionsAboutBuilds() {
        String states = "aadwwrrwa";
        for (int i = 0; i < Pasts.BUILDS; i++) {
            int build = i;
            due("stateOf(" + build + ")", states.charAt(build), store -> store.stateOf(build));
        }
        due("nextInReview", Pasts.WAITING_FIX, Releasetrain::nextInReview);
        due("percentageOf(STAGED)", 40, store -> store.percentageOf(Pasts.STAGED));
        due("percentageOf(UNSTAGED_FIX)", 0, store -> store.percentageOf(Pasts.UNSTAGED_FIX));
        due("percentageAfter(STAGED, 8)", 96, store -> store.percentageAfter(Pasts.STAGED, 8));
        due("percentageAfter(HELD, 99)", 60, store -> store.percentageAfter(Pasts.HELD, 99));
        due("holdOf(STAGED)", '-', store -> store.holdOf(Pasts.STAGED));
        due("holdOf(HELD)", 'v', store -> store.holdOf(Pasts.HELD));
        due("reach(STAGED)", 2, store -> store.reach(Pasts.STAGED));
        due("reach(HELD)", 0, store -> store.reach(Pasts.HELD));
        due("reachByDevices(STAGED)", 2, store -> store.reachByDevices(Pasts.STAGED));
        due("reachByDevices(HELD)", 0, store -> store.reachByDevices(Pasts.HELD));
        due("devicesWith(STAGED)", 2, store -> store.devicesWith(Pasts.STAGED));
        due("installs(STAGED)", 2, store -> store.installs(Pasts.STAGED));
        due("crashRate(STAGED)", 1.0f, store -> store.crashRate(Pasts.STAGED));
        due("crashRate(HELD)", 0.0f, store -> store.crashRate(Pasts.HELD));
        due("rating(STAGED)", 4.0, store -> store.rating(Pasts.STAGED));
        due("ratingBits(STAGED)", Double.doubleToLongBits(4.0), store -> store.ratingBits(Pasts.STAGED));
    }

    private static void questionsAboutDevices() {
        due("couldHave(0, STAGED)", true, store -> store.couldHave(0, Pasts.STAGED));
        due("couldHave(2, STAGED)", false, store -> store.couldHave(2, Pasts.STAGED));
        due("couldHave(0, HELD)", false, store -> store.couldHave(0, Pasts.HELD));
        due("buildOf(1)", Pasts.STAGED, store -> store.buildOf(1));
        due("owns(0, 0)", true, store -> store.owns(0, 0));
        due("owns(1, 0)", false, store -> store.owns(1, 0));
        due("canUse(0, 0)", true, store -> store.canUse(0, 0));
        due("canUse(0, 3)", false, store -> store.canUse(0, 3));
        Twins.asked("offered(0)", 0, Pasts::fullOfDevices, store -> store.offered(0));
    }

    private static void questionsAboutGroups() {
        due("groups", 2, Releasetrain::groups);
        due("worstGroup", 0, Releasetrain::worstGroup);
        due("crashesIn(1)", 1, store -> store.crashesIn(1));
        due("stackAt(0, 2)", 'c', store -> store.stackAt(0, 2));
        due("likeness(0, 1)", 0.0f, store -> store.likeness(0, 1));
        due("likeness(1, 1)", 1.0f, store -> store.likeness(1, 1));
        due("buildsIn(1)", 1, store -> store.buildsIn(1));
    }

    private static void questionsAboutTheStore() {
        due("day", 1, Releasetrain::day);
        due("lineAt(0)", 'v', store -> store.lineAt(0));
        due("usedShare", 1.0f, Releasetrain::usedShare);
    }
}
