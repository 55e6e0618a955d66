import java.util.NoSuchElementException;

/** Promises 17 to 24: who could have a build, what a device is given, and what it has. */
public final class UpdateTest {
    private UpdateTest() {
    }

    public static void main(String[] args) {
        couldHaveGoesByBucketModelAndLanguage();
        couldHaveNeedsAnApprovedBuildThatIsOut();
        fixesReachTheDevicesOfTheMendedBuild();
        wrongCouldHavesAreRefused();
        reachCountsEveryDevice();
        wrongReachesAreRefused();
        greatestVersionIsGiven();
        fixesAreGivenFirst();
        onlyGreaterVersionsAreGiven();
        offeredChangesNothing();
        wrongUpdatesAreRefused();
        devicesAndInstallsAreCounted();
        wrongCountsAreRefused();
        Checks.finish("UpdateTest");
    }

    private static void couldHaveGoesByBucketModelAndLanguage() {
        Releasetrain store = new Releasetrain();
        store.addBuild(1, 32 + 2, 4, 100, 0, 0);
        Stores.approve(store, 0);
        store.stage(0, 50, 0);
        int[][] devices = {{5, 2, 49}, {1, 2, 0}, {5, 2, 50}, {5, 2, 99}, {4, 2, 0}, {0, 2, 0}, {5, 1, 0}, {1, 0, 0}};
        boolean[] due = {true, true, false, false, false, false, false, false};
        for (int i = 0; i < due.length; i++) {
            store.addDevice(devices[i][0], devices[i][1], devices[i][2]);
            Checks.due("could device " + i + " have it", due[i], store.couldHave(i, 0));
        }
        store.stage(0, 100, 0);
        Checks.due("bucket 99 of all", true, store.couldHave(3, 0));
        Checks.due("another model of all", false, store.couldHave(4, 0));
    }

    private static void couldHaveNeedsAnApprovedBuildThatIsOut() {
        Releasetrain store = new Releasetrain();
        store.addDevice(0, 0, 0);
        Stores.draft(store, 1);
        Checks.due("a draft", false, store.couldHave(0, 0));
        store.submit(0);
        Checks.due("one that waits", false, store.couldHave(0, 0));
        store.review();
        Checks.due("of 0 percent", false, store.couldHave(0, 0));
        store.stage(0, 1, 0);
        Checks.due("of 1 percent", true, store.couldHave(0, 0));
        store.setSize(99);
        Checks.due("held", false, store.couldHave(0, 0));
        store.setSize(100);
        store.update(0);
        Checks.due("the one that it has", true, store.couldHave(0, 0));
    }

    private static void fixesReachTheDevicesOfTheMendedBuild() {
        Releasetrain store = new Releasetrain();
        Stores.rolledOut(store, 10, 100);
        store.update(store.addDevice(0, 0, 99));
        store.addDevice(0, 0, 98);
        Stores.approvedFix(store, 0, 20);
        Checks.due("a fix of 0 percent", false, store.couldHave(0, 1));
        store.stage(1, 1, 0);
        Checks.due("the device with the mended build", true, store.couldHave(0, 1));
        Checks.due("a device without a build", false, store.couldHave(1, 1));
        Stores.rolledOutFix(store, 1, 30, 1);
        Checks.due("a fix of the fix", false, store.couldHave(0, 2));
        Stores.rolledOut(store, 15, 1);
        Checks.due("an app reaches no device by its build", false, store.couldHave(0, 3));
        store.setSize(99);
        Checks.due("a held fix", false, store.couldHave(0, 1));
        store.setSize(200);
        Checks.due("update to the fix", 1, store.update(0));
        Checks.due("then the fix of the fix", true, store.couldHave(0, 2));
        Checks.due("and the first fix no more", false, store.couldHave(0, 1));
    }

    private static void wrongCouldHavesAreRefused() {
        Releasetrain store = new Releasetrain();
        store.addDevice(0, 0, 0);
        Stores.draft(store, 1);
        int[][] wrong = {{1, 0}, {-1, 0}, {0, 1}, {0, -1}, {1, 1}};
        for (int[] w : wrong) {
            Checks.refused("couldHave(" + w[0] + ", " + w[1] + ")", NoSuchElementException.class,
                    () -> store.couldHave(w[0], w[1]));
        }
    }

    private static void dueReach(Releasetrain store, int build, int due) {
        Checks.due("reach of " + build, due, store.reach(build));
        Checks.due("reach by devices of " + build, due, store.reachByDevices(build));
    }

    private static void reachCountsEveryDevice() {
        Releasetrain store = new Releasetrain();
        store.addBuild(10, 3, 1, 100, 0, 0);
        Stores.approve(store, 0);
        dueReach(store, 0, 0);
        store.stage(0, 30, 0);
        dueReach(store, 0, 0);
        int[][] devices = {{0, 0, 0}, {1, 0, 29}, {1, 0, 29}, {0, 0, 30}, {0, 0, 99}, {2, 0, 0}, {0, 1, 0}};
        for (int[] d : devices) {
            store.addDevice(d[0], d[1], d[2]);
        }
        dueReach(store, 0, 3);
        store.stage(0, 31, 0);
        dueReach(store, 0, 4);
        store.stage(0, 100, 0);
        dueReach(store, 0, 5);
        store.update(0);
        store.update(3);
        store.update(4);
        dueReach(store, 0, 5);
        Stores.approvedFix(store, 0, 11);
        dueReach(store, 1, 0);
        store.stage(1, 30, 0);
        dueReach(store, 1, 5);
        store.update(4);
        dueReach(store, 1, 4);
        store.setBarred(0);
        store.setSize(1);
        dueReach(store, 0, 0);
        dueReach(store, 1, 0);
    }

    private static void wrongReachesAreRefused() {
        Releasetrain store = new Releasetrain();
        Stores.draft(store, 1);
        dueReach(store, 0, 0);
        Checks.refused("reach(1)", NoSuchElementException.class, () -> store.reach(1));
        Checks.refused("reach(-1)", NoSuchElementException.class, () -> store.reach(-1));
        Checks.refused("reachByDevices(1)", NoSuchElementException.class, () -> store.reachByDevices(1));
        Checks.refused("reachByDevices(-1)", NoSuchElementException.class, () -> store.reachByDevices(-1));
    }

    private static void greatestVersionIsGiven() {
        Releasetrain store = new Releasetrain();
        Stores.rolledOut(store, 20, 100);
        Stores.rolledOut(store, 30, 50);
        Stores.rolledOut(store, 10, 100);
        store.addDevice(0, 0, 49);
        store.addDevice(0, 0, 50);
        Checks.due("of three", 1, store.offered(0));
        Checks.due("of two", 0, store.offered(1));
        Checks.due("update of three", 1, store.update(0));
        Checks.due("update of two", 0, store.update(1));
    }

    private static void fixesAreGivenFirst() {
        Releasetrain store = new Releasetrain();
        Stores.rolledOut(store, 10, 100);
        Stores.rolledOutFix(store, 0, 11, 100);
        Stores.rolledOut(store, 50, 100);
        Stores.rolledOutFix(store, 2, 12, 100);
        Stores.rolledOut(store, 60, 100);
        store.addDevice(0, 0, 0);
        Checks.due("the greatest fix, whichever build it mends", 3, store.update(0));
        Checks.due("no greater fix", 4, store.offered(0));
        Stores.rolledOutFix(store, 0, 13, 100);
        Checks.due("a greater fix of a build that it never had", 5, store.update(0));
        Checks.due("the greatest build", 4, store.update(0));
    }

    private static void onlyGreaterVersionsAreGiven() {
        Releasetrain store = new Releasetrain();
        Stores.rolledOut(store, 30, 100);
        Stores.rolledOut(store, 20, 100);
        Stores.rolledOutFix(store, 0, 29, 100);
        store.setSize(200);
        store.addDevice(0, 0, 0);
        Checks.due("the fix goes first", 2, store.update(0));
        Checks.due("then the greater build", 0, store.update(0));
        Checks.refused("none is greater", IllegalStateException.class, () -> store.update(0));
        Checks.refused("none is greater to offer", IllegalStateException.class, () -> store.offered(0));
        Checks.due("though it could have them", true, store.couldHave(0, 2));
    }

    private static void offeredChangesNothing() {
        Releasetrain store = new Releasetrain();
        Stores.rolledOut(store, 10, 100);
        store.addDevice(0, 0, 0);
        String before = Stores.pictureOf(store, 1, 1);
        Checks.due("offered", 0, store.offered(0));
        Checks.due("all that the store tells", before, Stores.pictureOf(store, 1, 1));
    }

    private static void wrongUpdatesAreRefused() {
        Releasetrain store = new Releasetrain();
        store.addDevice(0, 0, 0);
        Checks.refused("update without builds", IllegalStateException.class, () -> store.update(0));
        Checks.refused("offered without builds", IllegalStateException.class, () -> store.offered(0));
        Checks.refused("buildOf without a build", IllegalStateException.class, () -> store.buildOf(0));
        int[] wrong = {1, -1};
        for (int device : wrong) {
            Checks.refused("update(" + device + ")", NoSuchElementException.class, () -> store.update(device));
            Checks.refused("offered(" + device + ")", NoSuchElementException.class, () -> store.offered(device));
            Checks.refused("buildOf(" + device + ")", NoSuchElementException.class, () -> store.buildOf(device));
        }
        Stores.rolledOut(store, 10, 100);
        store.update(0);
        String before = Stores.pictureOf(store, 1, 1);
        Checks.refused("update to none", IllegalStateException.class, () -> store.update(0));
        Checks.due("all that the store tells", before, Stores.pictureOf(store, 1, 1));
    }

    private static void devicesAndInstallsAreCounted() {
        Releasetrain store = new Releasetrain();
        Stores.rolledOut(store, 10, 100);
        Stores.updatedDevices(store, 3);
        Checks.due("devices with the first", 3, store.devicesWith(0));
        Checks.due("installs of the first", 3, store.installs(0));
        Stores.rolledOut(store, 20, 100);
        Checks.due("installs of the second at first", 0, store.installs(1));
        store.update(1);
        Checks.due("build of device 0", 0, store.buildOf(0));
        Checks.due("build of device 1", 1, store.buildOf(1));
        Checks.due("devices with the first then", 2, store.devicesWith(0));
        Checks.due("installs of the first then", 3, store.installs(0));
        Checks.due("devices with the second", 1, store.devicesWith(1));
        Checks.due("installs of the second", 1, store.installs(1));
    }

    private static void wrongCountsAreRefused() {
        Releasetrain store = new Releasetrain();
        Stores.draft(store, 1);
        int[] wrong = {1, -1};
        for (int build : wrong) {
            Checks.refused("devicesWith(" + build + ")", NoSuchElementException.class, () -> store.devicesWith(build));
            Checks.refused("installs(" + build + ")", NoSuchElementException.class, () -> store.installs(build));
        }
    }
}
