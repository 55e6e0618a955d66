/** The sentences of "Holds" in the document, each at its edges. */
public final class HoldTermsTest {
    private HoldTermsTest() {
    }

    public static void main(String[] args) {
        onlyApprovedBuildsAreHeld();
        aRuleBarsItNow();
        threeInstallsOrMore();
        installsOfDevicesThatMovedOn();
        rateGreaterThanTheGreatest();
        ratesAreComparedAsFloats();
        greatestRateIsAHalfAtFirst();
        rateOfZero();
        threeRatingsOrMore();
        ratingsOfDevicesThatMovedOn();
        ratingLessThanTwoAndAHalf();
        theFirstReasonThatApplies();
        Checks.finish("HoldTermsTest");
    }

    /** Build 0 of size 100 with permission 0, on this many devices. */
    private static Releasetrain storeWithDevices(int count) {
        Releasetrain store = new Releasetrain();
        Stores.approve(store, store.addBuild(1, 63, 7, 100, 1, 0));
        store.stage(0, 100, 0);
        Stores.updatedDevices(store, count);
        return store;
    }

    private static void crash(Releasetrain store, int times) {
        for (int i = 0; i < times; i++) {
            Stores.crashWith(store, 0, "a");
        }
    }

    /** "An approved build is held": others are not, whatever bars them. */
    private static void onlyApprovedBuildsAreHeld() {
        Releasetrain store = Pasts.busy();
        store.setSize(1);
        store.setBarred(15);
        int[] others = {Pasts.DRAFT, Pasts.WAITING, Pasts.WAITING_FIX, Pasts.REFUSED, Pasts.REFUSED_TWICE,
            Pasts.APPEALED};
        for (int build : others) {
            Checks.refused("hold of build " + build, IllegalStateException.class, () -> store.holdOf(build));
        }
        Checks.due("hold of an approved one", 'v', store.holdOf(Pasts.STAGED));
        Checks.due("hold of an approved one of 0 percent", 'v', store.holdOf(Pasts.UNSTAGED_FIX));
    }

    /** "'v', a rule bars it now", the one or the other */
    private static void aRuleBarsItNow() {
        Releasetrain store = storeWithDevices(0);
        Checks.due("no rule", '-', store.holdOf(0));
        store.setSize(100);
        Checks.due("of the greatest size", '-', store.holdOf(0));
        store.setSize(99);
        Checks.due("greater by one", 'v', store.holdOf(0));
        store.setSize(100);
        store.setBarred(14);
        Checks.due("the other permissions barred", '-', store.holdOf(0));
        store.setBarred(15);
        Checks.due("its permission barred too", 'v', store.holdOf(0));
        store.setSize(99);
        Checks.due("both rules", 'v', store.holdOf(0));
        store.setBarred(0);
        store.setSize(500);
        Checks.due("none again", '-', store.holdOf(0));
        Checks.due("its state all the time", 'a', store.stateOf(0));
    }

    /** "'c', it has 3 installs or more" */
    private static void threeInstallsOrMore() {
        char[] due = {'-', '-', '-', 'c', 'c'};
        for (int installs = 1; installs <= 4; installs++) {
            Releasetrain store = storeWithDevices(installs);
            crash(store, 5);
            Checks.due(installs + " installs", due[installs], store.holdOf(0));
        }
    }

    private static void installsOfDevicesThatMovedOn() {
        Releasetrain store = storeWithDevices(3);
        Stores.rolledOut(store, 2, 100);
        store.update(0);
        store.update(1);
        Stores.crashWith(store, 2, "a");
        Stores.crashWith(store, 2, "a");
        Checks.due("one device has it of three installs", 'c', store.holdOf(0));
    }

    /** "and its crash rate is greater than the greatest rate" */
    private static void rateGreaterThanTheGreatest() {
        Releasetrain store = storeWithDevices(4);
        crash(store, 3);
        int[] thousandths = {749, 750, 751, 9999, 0, 1};
        char[] due = {'c', '-', '-', '-', 'c', 'c'};
        for (int i = 0; i < due.length; i++) {
            store.setRate(thousandths[i]);
            Checks.due("three quarters at " + thousandths[i], due[i], store.holdOf(0));
        }
        Releasetrain many = storeWithDevices(3);
        crash(many, 29);
        many.setRate(9667);
        Checks.due("29 thirds at 9667", '-', many.holdOf(0));
        many.setRate(9666);
        Checks.due("29 thirds at 9666", 'c', many.holdOf(0));
        crash(many, 1);
        many.setRate(9999);
        Checks.due("30 thirds at the greatest", 'c', many.holdOf(0));
    }

    /** Both are floats: 7 tenths at 700 thousandths are equal, though neither is exactly 0.7. */
    private static void ratesAreComparedAsFloats() {
        for (int installs = 3; installs <= 12; installs++) {
            Releasetrain store = storeWithDevices(installs);
            for (int crashes = 1; crashes <= 14; crashes++) {
                crash(store, 1);
                int thousandths = 1000 * crashes / installs;
                float rate = (float) crashes / (float) installs;
                store.setRate(thousandths);
                char due = rate > (float) thousandths / 1000.0f ? 'c' : '-';
                Checks.due(crashes + " of " + installs + " at " + thousandths, due, store.holdOf(0));
                store.setRate(thousandths + 1);
                Checks.due(crashes + " of " + installs + " at a thousandth more", '-', store.holdOf(0));
            }
        }
        Releasetrain store = storeWithDevices(10);
        crash(store, 7);
        store.setRate(700);
        Checks.due("7 of 10 at 700", '-', store.holdOf(0));
    }

    /** "the greatest rate, which is 0.5f at first" */
    private static void greatestRateIsAHalfAtFirst() {
        Releasetrain store = storeWithDevices(12);
        crash(store, 6);
        Checks.due("6 of 12", '-', store.holdOf(0));
        crash(store, 1);
        Checks.due("7 of 12", 'c', store.holdOf(0));
        Releasetrain odd = storeWithDevices(11);
        crash(odd, 5);
        Checks.due("5 of 11", '-', odd.holdOf(0));
        crash(odd, 1);
        Checks.due("6 of 11", 'c', odd.holdOf(0));
    }

    private static void rateOfZero() {
        Releasetrain store = storeWithDevices(3);
        store.setRate(0);
        Checks.due("no crash at the rate 0", '-', store.holdOf(0));
        crash(store, 1);
        Checks.due("a crash at the rate 0", 'c', store.holdOf(0));
    }

    /** "'t', it has 3 ratings or more" */
    private static void threeRatingsOrMore() {
        char[] due = {'-', '-', '-', 't', 't'};
        Releasetrain store = storeWithDevices(4);
        for (int ratings = 1; ratings <= 4; ratings++) {
            store.rate(ratings - 1, 1);
            store.rate(0, 1);
            Checks.due(ratings + " ratings", due[ratings], store.holdOf(0));
        }
    }

    private static void ratingsOfDevicesThatMovedOn() {
        Releasetrain store = storeWithDevices(3);
        store.rate(0, 1);
        store.rate(1, 1);
        Stores.rolledOut(store, 2, 100);
        store.update(0);
        store.rate(0, 1);
        Checks.due("two ratings of it, one of the other", '-', store.holdOf(0));
        store.rate(2, 1);
        Checks.due("three ratings of it", 't', store.holdOf(0));
        Checks.due("one rating of the other", '-', store.holdOf(1));
    }

    private static void dueOfStars(String stars, char due) {
        Releasetrain store = storeWithDevices(stars.length());
        for (int device = 0; device < stars.length(); device++) {
            store.rate(device, stars.charAt(device) - '0');
        }
        Checks.due("stars " + stars, due, store.holdOf(0));
    }

    /** "and its rating is less than 2.5" */
    private static void ratingLessThanTwoAndAHalf() {
        dueOfStars("111", 't');
        dueOfStars("223", 't');
        dueOfStars("233", '-');
        dueOfStars("2233", '-');
        dueOfStars("2223", 't');
        dueOfStars("22233", 't');
        dueOfStars("22333", '-');
        dueOfStars("511111", 't');
        dueOfStars("551121", '-');
        dueOfStars("551111", 't');
        dueOfStars("555", '-');
        dueOfStars("222222333333", '-');
        dueOfStars("222222333332", 't');
    }

    /** "the first of these reasons that applies" */
    private static void theFirstReasonThatApplies() {
        Releasetrain store = storeWithDevices(3);
        crash(store, 2);
        for (int device = 0; device < 3; device++) {
            store.rate(device, 1);
        }
        Checks.due("crashes and ratings", 'c', store.holdOf(0));
        store.setBarred(1);
        Checks.due("all three", 'v', store.holdOf(0));
        store.setRate(9999);
        Checks.due("review and ratings", 'v', store.holdOf(0));
        store.setBarred(0);
        Checks.due("ratings alone", 't', store.holdOf(0));
        store.rate(0, 5);
        store.rate(1, 5);
        Checks.due("none", '-', store.holdOf(0));
        store.setRate(0);
        Checks.due("crashes alone", 'c', store.holdOf(0));
        store.setSize(99);
        Checks.due("review and crashes", 'v', store.holdOf(0));
    }
}
