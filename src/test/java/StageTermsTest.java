/** The sentences of "Stages" in the document, and the day, each at its edges. */
public final class StageTermsTest {
    private StageTermsTest() {
    }

    public static void main(String[] args) {
        percentageZeroAtFirst();
        percentagesFromOneToAHundred();
        stepsFromZeroToAHundred();
        percentageNotLessThanBefore();
        greaterByTheStepOnEachDay();
        atMostAHundred();
        onlyPercentagesGreaterThanZero();
        heldByReviewTheyStand();
        heldByCrashesTheyStand();
        heldByRatingsTheyStand();
        holdsAreLookedAtForAllAhead();
        percentageAfterDaysAtBothEnds();
        percentageAfterAsksOneBuildAlone();
        daysUpToTheLast();
        Checks.finish("StageTermsTest");
    }

    private static Releasetrain staged(int percentage, int step) {
        Releasetrain store = new Releasetrain();
        Stores.approved(store, 1);
        store.stage(0, percentage, step);
        return store;
    }

    /** "An approved build has a percentage, 0 at first" */
    private static void percentageZeroAtFirst() {
        Releasetrain store = new Releasetrain();
        Stores.draft(store, 1);
        Checks.due("of a draft", 0, store.percentageOf(0));
        store.submit(0);
        Checks.due("of one that waits", 0, store.percentageOf(0));
        store.review();
        Checks.due("of an approved one", 0, store.percentageOf(0));
        Stores.approve(store, store.addBuild(2, 63, 7, 300, 0, 0));
        Checks.due("of a refused one", 0, store.percentageOf(1));
        Checks.due("the percentage before the first stage", 0, store.stage(0, 1, 0));
    }

    /** "the percentage, 1 to 100" */
    private static void percentagesFromOneToAHundred() {
        for (int percentage = 1; percentage <= 100; percentage++) {
            Checks.due("percentage", percentage, staged(percentage, 0).percentageOf(0));
        }
    }

    /** "the step, 0 to 100" */
    private static void stepsFromZeroToAHundred() {
        for (int step = 0; step <= 100; step++) {
            Releasetrain store = staged(1, step);
            Checks.due("foretold by a step of " + step, Math.min(100, 1 + step), store.percentageAfter(0, 1));
            store.pass(1);
            Checks.due("grown by a step of " + step, Math.min(100, 1 + step), store.percentageOf(0));
        }
    }

    /** "if the percentage is less than the one before", the one that has grown */
    private static void percentageNotLessThanBefore() {
        Releasetrain store = staged(40, 5);
        store.pass(2);
        Checks.refused("less by one", UnsupportedOperationException.class, () -> store.stage(0, 49, 0));
        Checks.refused("the one staged first", UnsupportedOperationException.class, () -> store.stage(0, 40, 0));
        Checks.due("the same", 50, store.stage(0, 50, 1));
        Checks.due("greater by one", 50, store.stage(0, 51, 2));
        Checks.due("the last step is the one", 53, store.percentageAfter(0, 1));
        store.stage(0, 100, 0);
        Checks.refused("less than a hundred", UnsupportedOperationException.class, () -> store.stage(0, 99, 0));
        Checks.due("a hundred again", 100, store.stage(0, 100, 100));
    }

    /** "On each day that passes, the percentage .. becomes greater by its step" */
    private static void greaterByTheStepOnEachDay() {
        Releasetrain store = staged(10, 4);
        for (int day = 1; day <= 9; day++) {
            store.pass(1);
            Checks.due("on day " + day, 10 + 4 * day, store.percentageOf(0));
        }
        Releasetrain atOnce = staged(10, 4);
        atOnce.pass(9);
        Checks.due("nine days at once", 46, atOnce.percentageOf(0));
        Releasetrain still = staged(10, 0);
        still.pass(99);
        Checks.due("by a step of 0", 10, still.percentageOf(0));
    }

    private static void dueBehindADay(int percentage, int step, int due) {
        Releasetrain store = staged(percentage, step);
        Checks.due(percentage + " by " + step + ", foretold", due, store.percentageAfter(0, 1));
        store.pass(1);
        Checks.due(percentage + " by " + step, due, store.percentageOf(0));
    }

    /** "but at most 100" */
    private static void atMostAHundred() {
        dueBehindADay(98, 1, 99);
        dueBehindADay(99, 1, 100);
        dueBehindADay(99, 2, 100);
        dueBehindADay(99, 100, 100);
        dueBehindADay(100, 0, 100);
        dueBehindADay(100, 1, 100);
        dueBehindADay(100, 100, 100);
        dueBehindADay(1, 98, 99);
        dueBehindADay(1, 99, 100);
        dueBehindADay(1, 100, 100);
        Releasetrain store = staged(1, 100);
        store.pass(99);
        Checks.due("99 days of a step of 100", 100, store.percentageOf(0));
    }

    /** "each approved build that has one greater than 0" */
    private static void onlyPercentagesGreaterThanZero() {
        Releasetrain store = staged(1, 1);
        Stores.approved(store, 2);
        Stores.draft(store, 3);
        store.submit(Stores.draft(store, 4));
        store.pass(1);
        Checks.due("from 1", 2, store.percentageOf(0));
        Checks.due("from 0", 0, store.percentageOf(1));
        Checks.due("of a draft", 0, store.percentageOf(2));
        Checks.due("of one that waits", 0, store.percentageOf(3));
    }

    private static void dueHeld(String what, Releasetrain store, char hold, int percentage) {
        Checks.due(what, hold, store.holdOf(0));
        Checks.due(what + ", foretold for a day", percentage, store.percentageAfter(0, 1));
        Checks.due(what + ", foretold for 99 days", percentage, store.percentageAfter(0, 99));
        store.pass(3);
        Checks.due(what + ", three days on", percentage, store.percentageOf(0));
    }

    private static void dueFree(String what, Releasetrain store, int percentage) {
        Checks.due(what, '-', store.holdOf(0));
        Checks.due(what + ", foretold", percentage, store.percentageAfter(0, 3));
        store.pass(3);
        Checks.due(what + ", three days on", percentage, store.percentageOf(0));
    }

    /** "and is not held" */
    private static void heldByReviewTheyStand() {
        Releasetrain store = staged(10, 5);
        store.setSize(99);
        dueHeld("held by its size", store, 'v', 10);
        store.setSize(100);
        dueFree("free of its size", store, 25);
    }

    private static void heldByCrashesTheyStand() {
        Releasetrain store = staged(10, 5);
        Stores.updatedDevices(store, 3);
        Stores.crashWith(store, 0, "a");
        Stores.crashWith(store, 0, "a");
        dueHeld("held by crashes", store, 'c', 10);
        store.setRate(1000);
        dueFree("free of crashes", store, 25);
    }

    private static void heldByRatingsTheyStand() {
        Releasetrain store = staged(10, 5);
        Stores.updatedDevices(store, 3);
        for (int device = 0; device < 3; device++) {
            store.rate(device, 2);
        }
        dueHeld("held by ratings", store, 't', 10);
        store.rate(0, 4);
        dueFree("free of ratings", store, 25);
    }

    /** "whether builds are held is looked at ahead of the day, for all of them" */
    private static void holdsAreLookedAtForAllAhead() {
        Releasetrain store = new Releasetrain();
        for (int build = 0; build < 10; build++) {
            Stores.approve(store, store.addBuild(build + 1, 63, 7, 100 + build, 0, 0));
            store.stage(build, 90, 1);
        }
        store.setSize(104);
        store.pass(2);
        for (int build = 0; build < 10; build++) {
            Checks.due("percentage of build " + build, build < 5 ? 92 : 90, store.percentageOf(build));
        }
    }

    /** "the number of days, 1 to 99" */
    private static void percentageAfterDaysAtBothEnds() {
        Releasetrain store = staged(1, 1);
        for (int days = 1; days <= 99; days++) {
            Checks.due("after " + days + " days", 1 + days, store.percentageAfter(0, days));
        }
        Checks.refused("after 0 days", IllegalArgumentException.class, () -> store.percentageAfter(0, 0));
        Checks.refused("after 100 days", IllegalArgumentException.class, () -> store.percentageAfter(0, 100));
        Checks.due("the percentage still", 1, store.percentageOf(0));
        Checks.due("the day still", 0, store.day());
    }

    private static void percentageAfterAsksOneBuildAlone() {
        Releasetrain store = Pasts.busy();
        int[] none = {Pasts.UNSTAGED_FIX, Pasts.DRAFT, Pasts.WAITING, Pasts.WAITING_FIX, Pasts.REFUSED,
            Pasts.REFUSED_TWICE, Pasts.APPEALED};
        for (int build : none) {
            Checks.due("build " + build + " after 99 days", 0, store.percentageAfter(build, 99));
        }
        Checks.due("the staged one after 99 days", 100, store.percentageAfter(Pasts.STAGED, 99));
        Checks.due("the held one after 99 days", 60, store.percentageAfter(Pasts.HELD, 99));
    }

    /** "the number of days, 1 to 99", and "if the day would be greater than 999" */
    private static void daysUpToTheLast() {
        Releasetrain store = new Releasetrain();
        Checks.due("the least number", 1, store.pass(1));
        for (int i = 1; i <= 9; i++) {
            Checks.due("the greatest number", 1 + 99 * i, store.pass(99));
        }
        Checks.due("the day 900", 900, store.pass(8));
        Releasetrain other = new Releasetrain();
        for (int i = 0; i < 10; i++) {
            other.pass(90);
        }
        Checks.due("from 900 to the last", 999, other.pass(99));
        Checks.due("from 900 to the last but one", 998, store.pass(98));
        Checks.refused("two days on", IllegalStateException.class, () -> store.pass(2));
        Checks.refused("99 days on", IllegalStateException.class, () -> store.pass(99));
        Checks.due("the day 998 still", 998, store.day());
        Checks.due("one day on", 999, store.pass(1));
        Checks.refused("one day more", IllegalStateException.class, () -> store.pass(1));
        Checks.due("the day 999 still", 999, store.day());
    }
}
