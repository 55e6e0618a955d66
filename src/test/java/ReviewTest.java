import java.util.NoSuchElementException;

/** Promises 5 to 11: submitting, reviewing, appealing, the rules and the states. */
public final class ReviewTest {
    private ReviewTest() {
    }

    public static void main(String[] args) {
        submitCountsWhoWaits();
        wrongSubmitsAreRefused();
        fixesGoAheadAndEarlierOnesFirst();
        nothingToReviewIsRefused();
        reviewTellsTheFirstRule();
        reviewGoesByTheRulesOfItsTime();
        appealQueuesAgainOnce();
        appealCountsAsSubmittedThen();
        wrongAppealsAreRefused();
        setSizeSwapsTheLimit();
        setBarredSwapsTheLimit();
        statesFollowTheReview();
        Checks.finish("ReviewTest");
    }

    private static void submitCountsWhoWaits() {
        Releasetrain store = new Releasetrain();
        for (int i = 0; i < 4; i++) {
            Stores.draft(store, i + 1);
        }
        Checks.due("first submit", 1, store.submit(2));
        Checks.due("second submit", 2, store.submit(0));
        store.review();
        Checks.due("submit after a review", 2, store.submit(1));
        store.setSize(50);
        store.review();
        Checks.due("submit after a refusal", 2, store.submit(3));
    }

    private static void wrongSubmitsAreRefused() {
        Releasetrain store = new Releasetrain();
        Stores.draft(store, 1);
        Checks.refused("submit(1)", NoSuchElementException.class, () -> store.submit(1));
        Checks.refused("submit(-1)", NoSuchElementException.class, () -> store.submit(-1));
        store.submit(0);
        String before = Stores.pictureOf(store, 0, 1);
        Checks.refused("submit of one that waits", IllegalStateException.class, () -> store.submit(0));
        Checks.due("all that the store tells", before, Stores.pictureOf(store, 0, 1));
        store.review();
        Checks.refused("submit of an approved one", IllegalStateException.class, () -> store.submit(0));
        store.setSize(1);
        Stores.approve(store, Stores.draft(store, 2));
        Checks.due("the second is refused", 'r', store.stateOf(1));
        Checks.refused("submit of a refused one", IllegalStateException.class, () -> store.submit(1));
    }

    private static void fixesGoAheadAndEarlierOnesFirst() {
        Releasetrain store = new Releasetrain();
        Stores.draft(store, 10);
        Stores.draft(store, 20);
        store.addFix(0, 30, 100, 0);
        store.addFix(1, 25, 100, 0);
        Stores.draft(store, 5);
        int[] submitted = {4, 3, 1, 2, 0};
        for (int build : submitted) {
            store.submit(build);
        }
        int[] due = {3, 2, 4, 1, 0};
        for (int build : due) {
            Checks.due("next in review", build, store.nextInReview());
            Checks.due("next in review, asked again", build, store.nextInReview());
            Checks.due("review of it", '-', store.review());
            Checks.due("state of it", 'a', store.stateOf(build));
        }
    }

    private static void nothingToReviewIsRefused() {
        Releasetrain store = new Releasetrain();
        Stores.draft(store, 1);
        Checks.refused("nextInReview, all drafts", IllegalStateException.class, store::nextInReview);
        Checks.refused("review, all drafts", IllegalStateException.class, store::review);
        Stores.approve(store, 0);
        Checks.refused("nextInReview, all approved", IllegalStateException.class, store::nextInReview);
        Checks.refused("review, all approved", IllegalStateException.class, store::review);
    }

    private static void reviewTellsTheFirstRule() {
        Releasetrain store = new Releasetrain();
        store.setBarred(6);
        int[][] sizesAndPermissions = {{200, 0}, {201, 0}, {200, 2}, {200, 9}, {201, 4}, {500, 15}, {1, 6}};
        char[] due = {'-', 's', 'p', '-', 's', 's', 'p'};
        for (int i = 0; i < due.length; i++) {
            store.addBuild(i + 1, 63, 7, sizesAndPermissions[i][0], sizesAndPermissions[i][1], 0);
            store.submit(i);
            Checks.due("review of size " + sizesAndPermissions[i][0] + ", permissions " + sizesAndPermissions[i][1],
                    due[i], store.review());
            Checks.due("state then", due[i] == '-' ? 'a' : 'r', store.stateOf(i));
        }
    }

    private static void reviewGoesByTheRulesOfItsTime() {
        Releasetrain store = new Releasetrain();
        store.addBuild(1, 63, 7, 300, 15, 0);
        Checks.due("no permission is barred at first", 0, store.setBarred(0));
        store.submit(0);
        store.setSize(300);
        Checks.due("allowed since it was submitted", '-', store.review());
        store.addBuild(2, 63, 7, 300, 0, 0);
        store.submit(1);
        store.setSize(299);
        Checks.due("barred since it was submitted", 's', store.review());
        Checks.due("the earlier one stays approved", 'a', store.stateOf(0));
    }

    private static void appealQueuesAgainOnce() {
        Releasetrain store = new Releasetrain();
        store.addBuild(1, 63, 7, 300, 0, 0);
        Stores.approve(store, 0);
        Checks.due("appeal", 1, store.appeal(0));
        Checks.due("state then", 'w', store.stateOf(0));
        Checks.due("refused again", 's', store.review());
        Checks.due("state after the second refusal", 'r', store.stateOf(0));
        String before = Stores.pictureOf(store, 0, 1);
        Checks.refused("a second appeal", IllegalStateException.class, () -> store.appeal(0));
        Checks.due("all that the store tells", before, Stores.pictureOf(store, 0, 1));
    }

    private static void appealCountsAsSubmittedThen() {
        Releasetrain store = new Releasetrain();
        store.addBuild(1, 63, 7, 300, 0, 0);
        store.addBuild(2, 63, 7, 100, 0, 0);
        store.addFix(1, 3, 300, 0);
        Stores.approve(store, 0);
        Stores.approve(store, 2);
        store.submit(1);
        Checks.due("appeal behind one that waits", 2, store.appeal(0));
        Checks.due("the one submitted earlier is next", 1, store.nextInReview());
        Checks.due("appeal of the fix", 3, store.appeal(2));
        Checks.due("the fix is next", 2, store.nextInReview());
        store.setSize(500);
        store.review();
        store.review();
        Checks.due("the appealed build is last", 0, store.nextInReview());
        Checks.due("an appeal can win", '-', store.review());
        Checks.due("state then", 'a', store.stateOf(0));
    }

    private static void wrongAppealsAreRefused() {
        Releasetrain store = new Releasetrain();
        Stores.draft(store, 1);
        Checks.refused("appeal(1)", NoSuchElementException.class, () -> store.appeal(1));
        Checks.refused("appeal(-1)", NoSuchElementException.class, () -> store.appeal(-1));
        Checks.refused("appeal of a draft", IllegalStateException.class, () -> store.appeal(0));
        store.submit(0);
        Checks.refused("appeal of one that waits", IllegalStateException.class, () -> store.appeal(0));
        store.review();
        Checks.refused("appeal of an approved one", IllegalStateException.class, () -> store.appeal(0));
    }

    private static void setSizeSwapsTheLimit() {
        Releasetrain store = new Releasetrain();
        Checks.due("the size at first", 200, store.setSize(1));
        Checks.due("the size before", 1, store.setSize(500));
        Checks.refused("setSize(0)", IllegalArgumentException.class, () -> store.setSize(0));
        Checks.refused("setSize(501)", IllegalArgumentException.class, () -> store.setSize(501));
        Checks.refused("setSize(-2147483648)", IllegalArgumentException.class,
                () -> store.setSize(Integer.MIN_VALUE));
        Checks.due("refused sizes are not set", 500, store.setSize(200));
    }

    private static void setBarredSwapsTheLimit() {
        Releasetrain store = new Releasetrain();
        Checks.due("barred at first", 0, store.setBarred(15));
        Checks.due("barred before", 15, store.setBarred(5));
        Checks.refused("setBarred(16)", IllegalArgumentException.class, () -> store.setBarred(16));
        Checks.refused("setBarred(-1)", IllegalArgumentException.class, () -> store.setBarred(-1));
        Checks.due("refused sums are not set", 5, store.setBarred(0));
    }

    private static void statesFollowTheReview() {
        Releasetrain store = new Releasetrain();
        Stores.draft(store, 1);
        Checks.due("a draft", 'd', store.stateOf(0));
        store.submit(0);
        Checks.due("one that waits", 'w', store.stateOf(0));
        store.review();
        Checks.due("an approved one", 'a', store.stateOf(0));
        store.setSize(1);
        Checks.due("held, but approved", 'a', store.stateOf(0));
        Stores.approve(store, Stores.draft(store, 2));
        Checks.due("a refused one", 'r', store.stateOf(1));
        Checks.refused("stateOf(2)", NoSuchElementException.class, () -> store.stateOf(2));
        Checks.refused("stateOf(-1)", NoSuchElementException.class, () -> store.stateOf(-1));
    }
}
