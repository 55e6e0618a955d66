/** The sentences of "Who could have a build" in the document, each at its edges. */
public final class ChoiceTermsTest {
    private ChoiceTermsTest() {
    }

    public static void main(String[] args) {
        onlyApprovedBuilds();
        percentageGreaterThanZero();
        notHeldForAnyReason();
        forItsModelAndItsLanguage();
        bucketLessThanThePercentage();
        percentagesThatGrowReachMore();
        fixOfTheBuildThatItHas();
        fixesOfTheBuildNeedTheOtherConditions();
        reachOfNoneAndOfAll();
        reachCountsNobodyTwice();
        versionsGreaterThanTheOneThatItHas();
        anyVersionWithoutABuild();
        fixWithTheGreatestVersion();
        buildWithTheGreatestVersion();
        noFixThatItCouldNotHave();
        updatesGoStepByStep();
        heldBuildsAreGivenToNobody();
        fixesOfHeldBuildsAreGiven();
        fixesOfLesserVersionsAreNotGiven();
        Checks.finish("ChoiceTermsTest");
    }

    private static void dueReach(String what, Releasetrain store, int build, int due) {
        Checks.due("reach, " + what, due, store.reach(build));
        Checks.due("reach by devices, " + what, due, store.reachByDevices(build));
    }

    /** "A device could have a build that is approved" */
    private static void onlyApprovedBuilds() {
        Releasetrain store = Pasts.busy();
        store.addDevice(0, 0, 0);
        for (int i = 0; i < Pasts.BUILDS; i++) {
            int build = i;
            Checks.due("device 3 could have build " + build, build == Pasts.STAGED, store.couldHave(3, build));
            dueReach("build " + build, store, build, build == Pasts.STAGED ? 3 : 0);
        }
    }

    /** "has a percentage greater than 0" */
    private static void percentageGreaterThanZero() {
        Releasetrain store = new Releasetrain();
        Stores.approved(store, 1);
        store.addDevice(0, 0, 0);
        Checks.due("at 0 percent", false, store.couldHave(0, 0));
        dueReach("at 0 percent", store, 0, 0);
        Checks.refused("update at 0 percent", IllegalStateException.class, () -> store.update(0));
        store.stage(0, 1, 0);
        Checks.due("at 1 percent", true, store.couldHave(0, 0));
        dueReach("at 1 percent", store, 0, 1);
        Checks.due("update at 1 percent", 0, store.update(0));
    }

    private static void dueHeld(Releasetrain store, char hold) {
        boolean free = hold == '-';
        Checks.due("hold", hold, store.holdOf(0));
        Checks.due("could have it, held by " + hold, free, store.couldHave(3, 0));
        dueReach("held by " + hold, store, 0, free ? 4 : 0);
        if (free) {
            Checks.due("offered", 0, store.offered(3));
        } else {
            Checks.refused("offered, held by " + hold, IllegalStateException.class, () -> store.offered(3));
        }
    }

    /** "is not held" */
    private static void notHeldForAnyReason() {
        Releasetrain store = new Releasetrain();
        Stores.rolledOut(store, 1, 100);
        Stores.updatedDevices(store, 3);
        store.addDevice(0, 0, 0);
        dueHeld(store, '-');
        for (int device = 0; device < 3; device++) {
            store.rate(device, 1);
        }
        dueHeld(store, 't');
        Stores.crashWith(store, 0, "a");
        Stores.crashWith(store, 0, "a");
        dueHeld(store, 'c');
        store.setSize(1);
        dueHeld(store, 'v');
        store.setSize(200);
        store.setRate(9999);
        store.rate(0, 5);
        store.rate(1, 5);
        dueHeld(store, '-');
    }

    /** "and is for its model and its language" */
    private static void forItsModelAndItsLanguage() {
        Releasetrain store = new Releasetrain();
        Stores.approve(store, store.addBuild(1, 1 + 32, 1 + 4, 100, 0, 0));
        store.stage(0, 100, 0);
        int[][] devices = {{0, 0}, {5, 2}, {0, 2}, {5, 0}, {1, 0}, {4, 2}, {0, 1}, {5, 1}, {2, 1}};
        for (int i = 0; i < devices.length; i++) {
            store.addDevice(devices[i][0], devices[i][1], 0);
            Checks.due("device " + i + " could have it", i < 4, store.couldHave(i, 0));
        }
        dueReach("of nine devices", store, 0, 4);
    }

    /** "if its bucket is less than the percentage" */
    private static void bucketLessThanThePercentage() {
        int[] percentages = {1, 2, 49, 50, 51, 98, 99, 100};
        for (int percentage : percentages) {
            Releasetrain store = new Releasetrain();
            Stores.rolledOut(store, 1, percentage);
            int[] buckets = {0, 1, 48, 49, 50, 97, 98, 99};
            int due = 0;
            for (int i = 0; i < buckets.length; i++) {
                store.addDevice(0, 0, buckets[i]);
                Checks.due("bucket " + buckets[i] + " of " + percentage, buckets[i] < percentage,
                        store.couldHave(i, 0));
                due += buckets[i] < percentage ? 1 : 0;
            }
            dueReach("at " + percentage, store, 0, due);
        }
    }

    private static void percentagesThatGrowReachMore() {
        Releasetrain store = new Releasetrain();
        Stores.approved(store, 1);
        store.stage(0, 10, 1);
        store.addDevice(0, 0, 10);
        store.addDevice(0, 0, 99);
        dueReach("at 10", store, 0, 0);
        store.pass(1);
        dueReach("at 11", store, 0, 1);
        store.pass(88);
        dueReach("at 99", store, 0, 1);
        store.pass(1);
        dueReach("at 100", store, 0, 2);
    }

    /** "or if the build is a fix of the build that the device has" */
    private static void fixOfTheBuildThatItHas() {
        Releasetrain store = new Releasetrain();
        Stores.rolledOut(store, 10, 100);
        Stores.rolledOut(store, 11, 100);
        store.addDevice(0, 0, 99);
        store.addDevice(0, 0, 99);
        store.addDevice(0, 0, 0);
        store.update(0);
        Checks.due("the build that device 0 has", 1, store.buildOf(0));
        Stores.rolledOutFix(store, 1, 20, 1);
        Stores.rolledOutFix(store, 0, 21, 1);
        Stores.rolledOutFix(store, 2, 22, 1);
        Checks.due("a fix of its build", true, store.couldHave(0, 2));
        Checks.due("a fix of another build", false, store.couldHave(0, 3));
        Checks.due("a fix of a fix of its build", false, store.couldHave(0, 4));
        Checks.due("a fix, without a build", false, store.couldHave(1, 2));
        Checks.due("a fix, by its bucket", true, store.couldHave(2, 2));
        dueReach("the fix of a build that one has", store, 2, 2);
        dueReach("the fix of a build that none has", store, 3, 1);
        Checks.due("update to the fix of its build", 2, store.update(0));
        Checks.due("then the fix of that fix", true, store.couldHave(0, 4));
        Checks.due("no more the fix that it has", false, store.couldHave(0, 2));
        dueReach("the fix that one has", store, 2, 1);
        dueReach("the fix of that fix", store, 4, 2);
    }

    /** A fix that is a draft, at 0 percent or held is for no device, the mended build's neither. */
    private static void fixesOfTheBuildNeedTheOtherConditions() {
        Releasetrain store = new Releasetrain();
        Stores.rolledOut(store, 10, 100);
        Stores.updatedDevices(store, 1);
        store.addFix(0, 20, 150, 0);
        dueReach("a draft", store, 1, 0);
        store.submit(1);
        dueReach("one that waits", store, 1, 0);
        store.review();
        dueReach("at 0 percent", store, 1, 0);
        Checks.refused("update at 0 percent", IllegalStateException.class, () -> store.update(0));
        store.stage(1, 1, 0);
        dueReach("at 1 percent", store, 1, 1);
        store.setSize(149);
        dueReach("held", store, 1, 0);
        Checks.due("held", false, store.couldHave(0, 1));
        store.setSize(150);
        Checks.due("free", 1, store.update(0));
    }

    private static void reachOfNoneAndOfAll() {
        Releasetrain store = new Releasetrain();
        Stores.rolledOut(store, 1, 100);
        dueReach("no devices", store, 0, 0);
        for (int i = 0; i < 12; i++) {
            store.addDevice(i % 6, i % 3, 9 * i);
            dueReach("devices so far", store, 0, i + 1);
        }
        Releasetrain alike = new Releasetrain();
        Stores.rolledOut(alike, 1, 1);
        for (int i = 0; i < 12; i++) {
            alike.addDevice(5, 2, 0);
        }
        dueReach("twelve devices alike", alike, 0, 12);
    }

    /** A device that could have a fix by its bucket and by its build counts once. */
    private static void reachCountsNobodyTwice() {
        Releasetrain store = new Releasetrain();
        Stores.rolledOut(store, 10, 100);
        int[] buckets = {0, 29, 30, 31, 99};
        for (int i = 0; i < buckets.length; i++) {
            store.addDevice(i, i % 3, buckets[i]);
            store.update(i);
        }
        store.addDevice(0, 0, 29);
        store.addDevice(0, 0, 30);
        Stores.rolledOutFix(store, 0, 20, 30);
        dueReach("five by their build, two of them and one more by bucket", store, 1, 6);
        store.stage(1, 31, 0);
        dueReach("and one more", store, 1, 7);
        store.update(4);
        dueReach("without one that has the fix now", store, 1, 6);
        store.stage(1, 100, 0);
        dueReach("all", store, 1, 7);
    }

    /** "whose versions are greater than that of the build that it has" */
    private static void versionsGreaterThanTheOneThatItHas() {
        Releasetrain store = new Releasetrain();
        Stores.rolledOut(store, 500, 100);
        Stores.updatedDevices(store, 1);
        Stores.rolledOut(store, 499, 100);
        Stores.rolledOutFix(store, 0, 498, 100);
        Checks.due("it could have the lesser build", true, store.couldHave(0, 1));
        Checks.due("it could have the lesser fix", true, store.couldHave(0, 2));
        Checks.due("it could have its own", true, store.couldHave(0, 0));
        Checks.refused("offered lesser ones", IllegalStateException.class, () -> store.offered(0));
        Checks.refused("update to lesser ones", IllegalStateException.class, () -> store.update(0));
        Stores.rolledOut(store, 501, 100);
        Checks.due("greater by one", 3, store.offered(0));
        Checks.due("update by one", 3, store.update(0));
        Checks.refused("none greater", IllegalStateException.class, () -> store.update(0));
    }

    /** "if it has one": without a build, the least version will do. */
    private static void anyVersionWithoutABuild() {
        Releasetrain store = new Releasetrain();
        store.addDevice(0, 0, 0);
        Checks.refused("no builds", IllegalStateException.class, () -> store.offered(0));
        Stores.rolledOut(store, 1, 1);
        Checks.due("offered the version 1", 0, store.offered(0));
        Checks.due("update to the version 1", 0, store.update(0));
        Stores.rolledOut(store, 999, 1);
        Checks.due("update to the version 999", 1, store.update(0));
    }

    /** "the fix with the greatest version, whichever build it mends, if there is a fix" */
    private static void fixWithTheGreatestVersion() {
        Releasetrain store = new Releasetrain();
        Stores.rolledOut(store, 10, 100);
        Stores.updatedDevices(store, 1);
        Stores.rolledOut(store, 900, 100);
        Stores.rolledOutFix(store, 0, 20, 1);
        Checks.due("a fix ahead of a greater build", 2, store.offered(0));
        Stores.rolledOutFix(store, 1, 22, 100);
        Checks.due("a greater fix of another build", 3, store.offered(0));
        Stores.rolledOutFix(store, 0, 21, 100);
        Checks.due("a lesser fix of its build, added later", 3, store.offered(0));
        Stores.rolledOutFix(store, 2, 23, 100);
        Checks.due("a greater fix of a fix", 5, store.offered(0));
        Checks.due("update to it", 5, store.update(0));
        Checks.due("no fix is left, the greatest build", 1, store.update(0));
    }

    /** "and otherwise the build with the greatest version" */
    private static void buildWithTheGreatestVersion() {
        int[][] orders = {{10, 20, 30}, {30, 20, 10}, {20, 30, 10}, {10, 30, 20}};
        int[] due = {2, 0, 1, 1};
        for (int i = 0; i < orders.length; i++) {
            Releasetrain store = new Releasetrain();
            for (int version : orders[i]) {
                Stores.rolledOut(store, version, 100);
            }
            Stores.updatedDevices(store, 1);
            Checks.due("given of order " + i, due[i], store.buildOf(0));
        }
    }

    /** "of those builds that it could have": a fix beyond its bucket is none. */
    private static void noFixThatItCouldNotHave() {
        Releasetrain store = new Releasetrain();
        Stores.rolledOut(store, 10, 100);
        Stores.rolledOutFix(store, 0, 30, 50);
        store.addDevice(0, 0, 50);
        store.addDevice(0, 0, 49);
        Checks.due("a bucket beyond the fix", 0, store.offered(0));
        Checks.due("a bucket within the fix", 1, store.offered(1));
        Checks.due("update beyond", 0, store.update(0));
        Checks.due("the fix of the build that it has then", 1, store.update(0));
    }

    private static void updatesGoStepByStep() {
        Releasetrain store = new Releasetrain();
        store.addDevice(3, 1, 42);
        for (int build = 0; build < 10; build++) {
            Stores.rolledOut(store, 100 * build + 1, 43);
            Checks.due("offered", build, store.offered(0));
            Checks.due("given", build, store.update(0));
            Checks.due("had", build, store.buildOf(0));
            Checks.due("devices with it", 1, store.devicesWith(build));
            Checks.due("installs of it", 1, store.installs(build));
            Checks.refused("no more", IllegalStateException.class, () -> store.update(0));
        }
        for (int build = 0; build < 9; build++) {
            Checks.due("devices with build " + build, 0, store.devicesWith(build));
            Checks.due("installs of build " + build, 1, store.installs(build));
        }
    }

    /** "No device is given a build that is held or not for it." */
    private static void heldBuildsAreGivenToNobody() {
        Releasetrain store = new Releasetrain();
        Stores.rolledOut(store, 10, 100);
        Stores.approve(store, store.addBuild(20, 63, 7, 150, 0, 0));
        store.stage(1, 100, 0);
        Stores.approve(store, store.addBuild(30, 2, 7, 100, 0, 0));
        store.stage(2, 100, 0);
        Stores.approve(store, store.addBuild(40, 63, 2, 100, 0, 0));
        store.stage(3, 100, 0);
        store.addDevice(0, 0, 0);
        Checks.due("the greatest for it", 1, store.offered(0));
        store.setSize(149);
        Checks.due("the greatest for it that is not held", 0, store.offered(0));
        store.setSize(99);
        Checks.refused("all are held", IllegalStateException.class, () -> store.offered(0));
        Checks.refused("update, all are held", IllegalStateException.class, () -> store.update(0));
        store.setSize(200);
        Checks.due("update", 1, store.update(0));
        store.setSize(99);
        Checks.due("it keeps a build that is held then", 1, store.buildOf(0));
    }

    /** What holds the mended build does not hold its fix, which is what the fix is for. */
    private static void fixesOfHeldBuildsAreGiven() {
        Releasetrain store = new Releasetrain();
        Stores.rolledOut(store, 10, 100);
        for (int i = 0; i < 3; i++) {
            store.update(store.addDevice(0, 0, 97 + i));
            Stores.crashWith(store, i, "a");
        }
        Stores.rolledOutFix(store, 0, 11, 1);
        Checks.due("hold of the mended build", 'c', store.holdOf(0));
        Checks.due("hold of the fix", '-', store.holdOf(1));
        dueReach("the mended build", store, 0, 0);
        dueReach("the fix", store, 1, 3);
        Checks.due("update to the fix", 1, store.update(2));
        Checks.due("the mended build is held still", 'c', store.holdOf(0));
    }

    /** A fix may have a lesser version than the build that it mends: a device could have it, and is not given it. */
    private static void fixesOfLesserVersionsAreNotGiven() {
        Releasetrain store = new Releasetrain();
        Stores.rolledOut(store, 10, 100);
        store.update(store.addDevice(0, 0, 99));
        Stores.rolledOutFix(store, 0, 9, 1);
        Checks.due("it could have the fix", true, store.couldHave(0, 1));
        dueReach("the lesser fix", store, 1, 1);
        Checks.refused("offered the lesser fix", IllegalStateException.class, () -> store.offered(0));
        Stores.rolledOutFix(store, 0, 11, 1);
        Checks.due("offered the greater fix", 2, store.offered(0));
    }
}
