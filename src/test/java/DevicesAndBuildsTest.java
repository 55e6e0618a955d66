import java.util.NoSuchElementException;

/** Promises 1 to 4: a new object, devices, builds and fixes. */
public final class DevicesAndBuildsTest {
    private DevicesAndBuildsTest() {
    }

    public static void main(String[] args) {
        newStoreIsEmpty();
        devicesAreNumbered();
        devicesOutOfRangeAreRefused();
        thirteenthDeviceIsRefused();
        buildsAreNumbered();
        buildsOutOfRangeAreRefused();
        secondBuildOfAVersionIsRefused();
        eleventhBuildIsRefused();
        fixesTakeOverTheOfferOfTheMendedBuild();
        wrongFixesAreRefused();
        refusedAddsChangeNothing();
        Checks.finish("DevicesAndBuildsTest");
    }

    private static void newStoreIsEmpty() {
        Releasetrain store = new Releasetrain();
        Checks.due("groups of a new store", 0, store.groups());
        Checks.due("day of a new store", 0, store.day());
        Checks.refused("buildOf without devices", NoSuchElementException.class, () -> store.buildOf(0));
        Checks.refused("stateOf without builds", NoSuchElementException.class, () -> store.stateOf(0));
        Checks.refused("crashesIn without crashes", NoSuchElementException.class, () -> store.crashesIn(0));
        Checks.refused("lineAt of the empty line", IndexOutOfBoundsException.class, () -> store.lineAt(0));
        Stores.approved(store, 1);
        Checks.refused("a second store shares nothing", NoSuchElementException.class,
                () -> new Releasetrain().stateOf(0));
    }

    private static void devicesAreNumbered() {
        Releasetrain store = new Releasetrain();
        Checks.due("first device", 0, store.addDevice(0, 0, 0));
        Checks.due("device of the greatest numbers", 1, store.addDevice(5, 2, 99));
        Checks.due("device like an earlier one", 2, store.addDevice(0, 0, 0));
        Checks.refused("a new device has no build", IllegalStateException.class, () -> store.buildOf(1));
        Checks.due("a new device owns nothing", false, store.owns(1, 0));
    }

    private static void devicesOutOfRangeAreRefused() {
        Releasetrain store = new Releasetrain();
        int[][] wrong = {{-1, 0, 0}, {6, 0, 0}, {0, -1, 0}, {0, 3, 0}, {0, 0, -1}, {0, 0, 100},
            {Integer.MIN_VALUE, 0, 0}, {0, Integer.MAX_VALUE, 0}};
        for (int[] w : wrong) {
            Checks.refused("addDevice(" + w[0] + ", " + w[1] + ", " + w[2] + ")", IllegalArgumentException.class,
                    () -> store.addDevice(w[0], w[1], w[2]));
        }
        Checks.due("refused devices take no number", 0, store.addDevice(0, 0, 0));
    }

    private static void thirteenthDeviceIsRefused() {
        Releasetrain store = new Releasetrain();
        for (int i = 0; i < 12; i++) {
            Checks.due("device " + i, i, store.addDevice(i % 6, i % 3, i));
        }
        Checks.refused("device 12", IllegalStateException.class, () -> store.addDevice(0, 0, 0));
        Checks.refused("device 12 out of range", IllegalArgumentException.class, () -> store.addDevice(6, 0, 0));
        Checks.refused("there is no device 12", NoSuchElementException.class, () -> store.owns(12, 0));
    }

    private static void buildsAreNumbered() {
        Releasetrain store = new Releasetrain();
        Checks.due("build of the least numbers", 0, store.addBuild(1, 1, 1, 1, 0, 0));
        Checks.due("build of the greatest numbers", 1, store.addBuild(999, 63, 7, 500, 15, 255));
        Checks.due("a new build is a draft", 'd', store.stateOf(0));
        Checks.due("a new build is no fix", "v1 app draft", Stores.lineOf(store, 0));
        Checks.due("its version", "v999 app draft", Stores.lineOf(store, 1));
        Checks.due("its percentage", 0, store.percentageOf(0));
        Checks.due("its installs", 0, store.installs(0));
    }

    private static void buildsOutOfRangeAreRefused() {
        Releasetrain store = new Releasetrain();
        int[][] wrong = {{0, 1, 1, 1, 0, 0}, {1000, 1, 1, 1, 0, 0}, {1, 0, 1, 1, 0, 0}, {1, 64, 1, 1, 0, 0},
            {1, 1, 0, 1, 0, 0}, {1, 1, 8, 1, 0, 0}, {1, 1, 1, 0, 0, 0}, {1, 1, 1, 501, 0, 0}, {1, 1, 1, 1, -1, 0},
            {1, 1, 1, 1, 16, 0}, {1, 1, 1, 1, 0, -1}, {1, 1, 1, 1, 0, 256}, {Integer.MIN_VALUE, 1, 1, 1, 0, 0}};
        for (int[] w : wrong) {
            Checks.refused("addBuild with " + java.util.Arrays.toString(w), IllegalArgumentException.class,
                    () -> store.addBuild(w[0], w[1], w[2], w[3], w[4], w[5]));
        }
        Checks.due("refused builds take no number", 0, store.addBuild(1, 1, 1, 1, 0, 0));
    }

    private static void secondBuildOfAVersionIsRefused() {
        Releasetrain store = new Releasetrain();
        Stores.draft(store, 7);
        Stores.draft(store, 8);
        Checks.refused("the first build's version", IllegalStateException.class, () -> Stores.draft(store, 7));
        Checks.refused("the second build's version", IllegalStateException.class, () -> Stores.draft(store, 8));
        Checks.refused("a version out of range goes first", IllegalArgumentException.class,
                () -> store.addBuild(7, 0, 1, 1, 0, 0));
        Checks.refused("a build's version for a fix", IllegalStateException.class, () -> store.addFix(0, 8, 1, 0));
        Checks.due("another version", 2, Stores.draft(store, 9));
    }

    private static void eleventhBuildIsRefused() {
        Releasetrain store = new Releasetrain();
        for (int i = 0; i < 10; i++) {
            Checks.due("build " + i, i, i % 2 == 0 ? Stores.draft(store, i + 1) : store.addFix(0, i + 1, 1, 0));
        }
        Checks.refused("build 10", IllegalStateException.class, () -> Stores.draft(store, 11));
        Checks.refused("fix 10", IllegalStateException.class, () -> store.addFix(0, 11, 1, 0));
        Checks.refused("build 10 out of range", IllegalArgumentException.class,
                () -> store.addBuild(11, 1, 1, 0, 0, 0));
        Checks.refused("fix 10 out of range", IllegalArgumentException.class, () -> store.addFix(0, 11, 0, 0));
        Checks.refused("there is no build 10", NoSuchElementException.class, () -> store.stateOf(10));
    }

    private static void fixesTakeOverTheOfferOfTheMendedBuild() {
        Releasetrain store = new Releasetrain();
        store.addBuild(10, 4, 2, 100, 0, 8);
        Checks.due("a fix", 1, store.addFix(0, 11, 100, 0));
        Checks.due("a fix of a fix", 2, store.addFix(1, 12, 500, 15));
        Checks.due("its sort", "v11 fix draft", Stores.lineOf(store, 1));
        Stores.approve(store, 1);
        store.stage(1, 100, 0);
        store.addDevice(2, 1, 99);
        store.addDevice(2, 0, 0);
        store.addDevice(1, 1, 0);
        Checks.due("for its model and language", true, store.couldHave(0, 1));
        Checks.due("not for another language", false, store.couldHave(1, 1));
        Checks.due("not for another model", false, store.couldHave(2, 1));
        store.update(0);
        Checks.due("it sells the item", 1, store.buy(0, 3));
        Checks.refused("it sells no other", UnsupportedOperationException.class, () -> store.buy(0, 2));
    }

    private static void wrongFixesAreRefused() {
        Releasetrain store = new Releasetrain();
        Stores.draft(store, 5);
        int[][] wrong = {{0, 0, 1, 0}, {0, 1000, 1, 0}, {0, 6, 0, 0}, {0, 6, 501, 0}, {0, 6, 1, -1}, {0, 6, 1, 16},
            {0, 5, 0, 0}};
        for (int[] w : wrong) {
            Checks.refused("addFix with " + java.util.Arrays.toString(w), IllegalArgumentException.class,
                    () -> store.addFix(w[0], w[1], w[2], w[3]));
        }
        Checks.refused("fix of build 1", NoSuchElementException.class, () -> store.addFix(1, 0, 0, 0));
        Checks.refused("fix of build -1", NoSuchElementException.class, () -> store.addFix(-1, 6, 1, 0));
        Checks.refused("fix with the mended version", IllegalStateException.class, () -> store.addFix(0, 5, 1, 0));
        Checks.due("refused fixes take no number", 1, store.addFix(0, 6, 1, 0));
    }

    private static void refusedAddsChangeNothing() {
        Releasetrain store = new Releasetrain();
        Stores.rolledOut(store, 5, 50);
        Stores.updatedDevices(store, 1);
        String before = Stores.pictureOf(store, 1, 1);
        Checks.refused("addDevice", IllegalArgumentException.class, () -> store.addDevice(0, 0, 100));
        Checks.refused("addBuild", IllegalStateException.class, () -> Stores.draft(store, 5));
        Checks.refused("addFix", IllegalStateException.class, () -> store.addFix(0, 5, 1, 0));
        Checks.due("all that the store tells", before, Stores.pictureOf(store, 1, 1));
    }
}
