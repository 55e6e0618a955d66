/** The sentences of "Reviews" in the document, each at its edges. */
public final class ReviewTermsTest {
    private ReviewTermsTest() {
    }

    public static void main(String[] args) {
        draftsWaitWhenSubmitted();
        fixesGoAheadOfOthers();
        earlierOnesGoFirst();
        tenBuildsWait();
        sizeGreaterThanTheGreatest();
        permissionThatIsBarred();
        sizeIsLookedAtFirst();
        appealedOnce();
        appealsCountAsSubmittedThen();
        Checks.finish("ReviewTermsTest");
    }

    /** "A build is a draft, 'd', at first; it can be submitted, and waits for its review then, 'w'." */
    private static void draftsWaitWhenSubmitted() {
        Releasetrain store = new Releasetrain();
        Stores.draft(store, 1);
        store.addFix(0, 2, 100, 0);
        for (int build = 0; build < 2; build++) {
            Checks.due("at first", 'd', store.stateOf(build));
            store.submit(build);
            Checks.due("submitted", 'w', store.stateOf(build));
        }
    }

    /** "fixes ahead of others", also of those that wait longer */
    private static void fixesGoAheadOfOthers() {
        Releasetrain store = new Releasetrain();
        Stores.draft(store, 1);
        store.addFix(0, 2, 100, 0);
        store.submit(0);
        Checks.due("the only one", 0, store.nextInReview());
        store.submit(1);
        Checks.due("a fix submitted later", 1, store.nextInReview());
        store.review();
        Checks.due("the fix reviewed", 'a', store.stateOf(1));
        Checks.due("the other waits on", 'w', store.stateOf(0));
        Checks.due("then the other", 0, store.nextInReview());
    }

    /** "of both sorts, the one that was submitted earlier first", whatever its number and its version */
    private static void earlierOnesGoFirst() {
        Releasetrain store = new Releasetrain();
        Stores.draft(store, 1);
        Stores.draft(store, 9);
        store.addFix(0, 2, 100, 0);
        store.addFix(0, 8, 100, 0);
        int[] submitted = {1, 0, 3, 2};
        for (int build : submitted) {
            store.submit(build);
        }
        int[] due = {3, 2, 1, 0};
        for (int build : due) {
            Checks.due("next", build, store.nextInReview());
            store.review();
        }
    }

    /** The fullest queue: all ten builds wait, and leave it one by one. */
    private static void tenBuildsWait() {
        Releasetrain store = new Releasetrain();
        for (int build = 0; build < 10; build++) {
            Stores.draft(store, build + 1);
        }
        for (int build = 9; build >= 0; build--) {
            Checks.due("builds that wait", 10 - build, store.submit(build));
        }
        for (int build = 9; build >= 0; build--) {
            Checks.due("next of ten", build, store.nextInReview());
            Checks.due("its review", '-', store.review());
        }
        Checks.refused("next of none", IllegalStateException.class, store::nextInReview);
        Checks.refused("review of none", IllegalStateException.class, store::review);
    }

    private static char reviewOf(Releasetrain store, int version, int size, int permissions) {
        store.submit(store.addBuild(version, 63, 7, size, permissions, 0));
        return store.review();
    }

    /** "'s', its size is greater than the greatest size, which is 200 at first" */
    private static void sizeGreaterThanTheGreatest() {
        Releasetrain store = new Releasetrain();
        Checks.due("200 of 200", '-', reviewOf(store, 1, 200, 0));
        Checks.due("201 of 200", 's', reviewOf(store, 2, 201, 0));
        store.setSize(1);
        Checks.due("1 of 1", '-', reviewOf(store, 3, 1, 0));
        Checks.due("2 of 1", 's', reviewOf(store, 4, 2, 0));
        store.setSize(499);
        Checks.due("499 of 499", '-', reviewOf(store, 5, 499, 0));
        Checks.due("500 of 499", 's', reviewOf(store, 6, 500, 0));
        store.setSize(500);
        Checks.due("500 of 500", '-', reviewOf(store, 7, 500, 0));
        String states = "ararara";
        for (int build = 0; build < 7; build++) {
            Checks.due("state of build " + build, states.charAt(build), store.stateOf(build));
        }
    }

    /** "'p', it has a permission that is barred; none is at first." One of several is enough. */
    private static void permissionThatIsBarred() {
        Releasetrain store = new Releasetrain();
        Checks.due("all permissions at first", '-', reviewOf(store, 1, 100, 15));
        store.setBarred(15);
        Checks.due("no permission, all barred", '-', reviewOf(store, 2, 100, 0));
        Checks.due("one permission, all barred", 'p', reviewOf(store, 3, 100, 4));
        store.setBarred(4);
        Checks.due("all permissions, one barred", 'p', reviewOf(store, 4, 100, 15));
        Checks.due("all permissions but the barred one", '-', reviewOf(store, 5, 100, 11));
        store.setBarred(0);
        Checks.due("all permissions, none barred again", '-', reviewOf(store, 6, 100, 15));
    }

    /** "The rules are, in this order" */
    private static void sizeIsLookedAtFirst() {
        Releasetrain store = new Releasetrain();
        store.setBarred(1);
        Checks.due("both rules bar it", 's', reviewOf(store, 1, 201, 1));
        Checks.due("the second alone bars it", 'p', reviewOf(store, 2, 200, 1));
        Checks.due("no rule bars it", '-', reviewOf(store, 3, 200, 2));
    }

    /** "A build that is refused can be appealed once" */
    private static void appealedOnce() {
        Releasetrain store = new Releasetrain();
        reviewOf(store, 1, 300, 0);
        reviewOf(store, 2, 300, 0);
        Checks.due("the appeal of one", 1, store.appeal(0));
        Checks.refused("appeal while it waits", IllegalStateException.class, () -> store.appeal(0));
        Checks.due("refused again", 's', store.review());
        Checks.refused("a second appeal", IllegalStateException.class, () -> store.appeal(0));
        Checks.due("the appeal of the other, which has its own", 1, store.appeal(1));
        store.setSize(300);
        Checks.due("approved now", '-', store.review());
        Checks.refused("appeal of an approved one", IllegalStateException.class, () -> store.appeal(1));
        Checks.refused("a second appeal, though it would win", IllegalStateException.class, () -> store.appeal(0));
    }

    /** "and waits for its review again, as if it was submitted then" */
    private static void appealsCountAsSubmittedThen() {
        Releasetrain store = new Releasetrain();
        reviewOf(store, 1, 300, 0);
        Stores.draft(store, 2);
        Stores.draft(store, 3);
        store.addFix(0, 4, 300, 0);
        store.addFix(0, 5, 100, 0);
        store.submit(3);
        store.review();
        store.submit(1);
        Checks.due("builds that wait with the appealed one", 2, store.appeal(0));
        store.submit(2);
        store.submit(4);
        Checks.due("builds that wait with the appealed fix", 5, store.appeal(3));
        store.setSize(500);
        int[] due = {4, 3, 1, 0, 2};
        for (int build : due) {
            Checks.due("next", build, store.nextInReview());
            Checks.due("its review", '-', store.review());
        }
    }
}
