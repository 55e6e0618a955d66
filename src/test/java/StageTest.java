import java.util.NoSuchElementException;

/** Promises 12 to 15 and 42: percentages, steps and days. */
public final class StageTest {
    private StageTest() {
    }

    public static void main(String[] args) {
        stageSetsPercentageAndStep();
        wrongStagesAreRefused();
        heldBuildsCanBeStaged();
        percentagesGrowByTheirStep();
        percentagesStopAtAHundred();
        onlyBuildsThatAreOutGrow();
        heldBuildsDoNotGrow();
        percentageAfterTellsWhatPassDoes();
        wrongPercentagesAreRefused();
        daysAddUp();
        wrongDaysAreRefused();
        Checks.finish("StageTest");
    }

    private static void stageSetsPercentageAndStep() {
        Releasetrain store = new Releasetrain();
        Stores.approved(store, 1);
        Checks.due("percentage at first", 0, store.percentageOf(0));
        Checks.due("first stage", 0, store.stage(0, 1, 100));
        Checks.due("percentage then", 1, store.percentageOf(0));
        Checks.due("the same percentage again", 1, store.stage(0, 1, 2));
        Checks.due("the new step", 3, store.percentageAfter(0, 1));
        Checks.due("stage to the greatest", 1, store.stage(0, 100, 0));
        Checks.due("percentage at the end", 100, store.percentageOf(0));
    }

    private static void wrongStagesAreRefused() {
        Releasetrain store = new Releasetrain();
        Stores.draft(store, 1);
        Checks.refused("stage of a draft", IllegalStateException.class, () -> store.stage(0, 1, 0));
        Checks.refused("a number out of range goes first", IllegalArgumentException.class,
                () -> store.stage(0, 0, 0));
        store.submit(0);
        Checks.refused("stage of one that waits", IllegalStateException.class, () -> store.stage(0, 1, 0));
        store.review();
        store.stage(0, 40, 7);
        int[][] wrong = {{0, 0}, {-1, 0}, {101, 0}, {50, -1}, {50, 101}, {30, 101}};
        for (int[] w : wrong) {
            Checks.refused("stage(0, " + w[0] + ", " + w[1] + ")", IllegalArgumentException.class,
                    () -> store.stage(0, w[0], w[1]));
        }
        Checks.refused("stage below", UnsupportedOperationException.class, () -> store.stage(0, 39, 50));
        Checks.refused("stage(1, ..)", NoSuchElementException.class, () -> store.stage(1, 0, 0));
        Checks.refused("stage(-1, ..)", NoSuchElementException.class, () -> store.stage(-1, 50, 0));
        Checks.due("refused stages set no percentage", 40, store.percentageOf(0));
        Checks.due("refused stages set no step", 47, store.percentageAfter(0, 1));
        store.setSize(1);
        Stores.approve(store, Stores.draft(store, 2));
        Checks.refused("stage of a refused one", IllegalStateException.class, () -> store.stage(1, 1, 0));
    }

    private static void heldBuildsCanBeStaged() {
        Releasetrain store = new Releasetrain();
        Stores.rolledOut(store, 1, 10);
        store.setSize(1);
        Checks.due("hold", 'v', store.holdOf(0));
        Checks.due("stage of a held build", 10, store.stage(0, 20, 5));
        Checks.due("percentage then", 20, store.percentageOf(0));
    }

    private static void percentagesGrowByTheirStep() {
        Releasetrain store = new Releasetrain();
        for (int i = 0; i < 3; i++) {
            Stores.approved(store, i + 1);
            store.stage(i, 10 + i, i * 3);
        }
        store.pass(1);
        Checks.due("step 0", 10, store.percentageOf(0));
        Checks.due("step 3", 14, store.percentageOf(1));
        Checks.due("step 6", 18, store.percentageOf(2));
        store.pass(4);
        Checks.due("step 3 for four days more", 26, store.percentageOf(1));
        Checks.due("step 6 for four days more", 42, store.percentageOf(2));
    }

    private static void percentagesStopAtAHundred() {
        Releasetrain store = new Releasetrain();
        Stores.approved(store, 1);
        store.stage(0, 1, 33);
        store.pass(3);
        Checks.due("a hundred, just reached", 100, store.percentageOf(0));
        store.pass(99);
        Checks.due("a hundred, kept", 100, store.percentageOf(0));
        Stores.approved(store, 2);
        store.stage(1, 99, 100);
        store.pass(1);
        Checks.due("a hundred, overshot", 100, store.percentageOf(1));
    }

    private static void onlyBuildsThatAreOutGrow() {
        Releasetrain store = new Releasetrain();
        Stores.draft(store, 1);
        Stores.approved(store, 2);
        store.pass(50);
        Checks.due("a draft", 0, store.percentageOf(0));
        Checks.due("an approved one without a stage", 0, store.percentageOf(1));
    }

    private static void heldBuildsDoNotGrow() {
        Releasetrain store = new Releasetrain();
        Stores.approved(store, 1);
        Stores.approved(store, 2);
        store.stage(0, 10, 5);
        store.addBuild(3, 63, 7, 50, 8, 0);
        Stores.approve(store, 2);
        store.stage(2, 10, 5);
        store.setBarred(8);
        store.pass(2);
        Checks.due("free", 20, store.percentageOf(0));
        Checks.due("held", 10, store.percentageOf(2));
        Checks.due("held, foretold", 10, store.percentageAfter(2, 9));
        store.setBarred(0);
        store.pass(2);
        Checks.due("free for two days more", 30, store.percentageOf(0));
        Checks.due("free again", 20, store.percentageOf(2));
    }

    private static void percentageAfterTellsWhatPassDoes() {
        int[] days = {1, 2, 33, 99};
        for (int d : days) {
            Releasetrain store = new Releasetrain();
            Stores.approved(store, 1);
            store.stage(0, 4, 3);
            Stores.approved(store, 2);
            Stores.draft(store, 3);
            for (int build = 0; build < 3; build++) {
                int foretold = store.percentageAfter(build, d);
                Checks.due("asking changes nothing", build == 0 ? 4 : 0, store.percentageOf(build));
                Checks.due("foretold for " + d + " days", build == 0 ? Math.min(100, 4 + 3 * d) : 0, foretold);
            }
            int foretold = store.percentageAfter(0, d);
            store.pass(d);
            Checks.due("passed " + d + " days", foretold, store.percentageOf(0));
        }
        Releasetrain old = new Releasetrain();
        Stores.approved(old, 1);
        old.stage(0, 1, 1);
        for (int i = 0; i < 10; i++) {
            old.pass(99);
        }
        Checks.due("behind the last day", 100, old.percentageAfter(0, 99));
    }

    private static void wrongPercentagesAreRefused() {
        Releasetrain store = new Releasetrain();
        Stores.draft(store, 1);
        Checks.refused("percentageOf(1)", NoSuchElementException.class, () -> store.percentageOf(1));
        Checks.refused("percentageOf(-1)", NoSuchElementException.class, () -> store.percentageOf(-1));
        Checks.refused("percentageAfter(1, 0)", NoSuchElementException.class, () -> store.percentageAfter(1, 0));
        Checks.refused("percentageAfter(-1, 1)", NoSuchElementException.class, () -> store.percentageAfter(-1, 1));
        Checks.refused("percentageAfter(0, 0)", IllegalArgumentException.class, () -> store.percentageAfter(0, 0));
        Checks.refused("percentageAfter(0, 100)", IllegalArgumentException.class,
                () -> store.percentageAfter(0, 100));
        Checks.refused("percentageAfter(0, -2147483648)", IllegalArgumentException.class,
                () -> store.percentageAfter(0, Integer.MIN_VALUE));
    }

    private static void daysAddUp() {
        Releasetrain store = new Releasetrain();
        Checks.due("the day at first", 0, store.day());
        Checks.due("one day", 1, store.pass(1));
        Checks.due("a hundred days", 100, store.pass(99));
        Checks.due("the day then", 100, store.day());
    }

    private static void wrongDaysAreRefused() {
        Releasetrain store = new Releasetrain();
        Stores.approved(store, 1);
        store.stage(0, 1, 0);
        int[] wrong = {0, -1, 100, Integer.MAX_VALUE, Integer.MIN_VALUE};
        for (int days : wrong) {
            Checks.refused("pass(" + days + ")", IllegalArgumentException.class, () -> store.pass(days));
        }
        for (int i = 0; i < 10; i++) {
            store.pass(99);
        }
        store.stage(0, 1, 1);
        Checks.refused("the day 1000", IllegalStateException.class, () -> store.pass(10));
        Checks.refused("no days go first", IllegalArgumentException.class, () -> store.pass(0));
        Checks.due("refused days do not pass", 990, store.day());
        Checks.due("refused days change no percentage", 1, store.percentageOf(0));
        Checks.due("the day 999", 999, store.pass(9));
        Checks.refused("a day behind the last", IllegalStateException.class, () -> store.pass(1));
        Checks.due("the last day", 999, store.day());
    }
}
